/-! the reference: frames, digests, challenge -/
def FR (p : Nat → Prop) (I L I' L' : Nat → Int → Int) : Prop := (∀ a j, ¬ p a → (a ≠ 175 ∨ (j ≠ 18 ∧ j ≠ 19 ∧ j ≠ 20 ∧ j ≠ 23 ∧ j ≠ 4)) → I' a j = I a j) ∧ (∀ a j, a ≠ 175 → a ≠ 195 → a ≠ 196 → a ≠ 197 → a ≠ 201 → L' a j = L a j)
theorem FR.rfl' {p : Nat → Prop} {I L : Nat → Int → Int} : FR p I L I L := ⟨fun _ _ _ _ => rfl, fun _ _ _ _ _ _ _ => rfl⟩
theorem FR.tr {p q r : Nat → Prop} {I L I1 L1 I2 L2 : Nat → Int → Int} (h : FR p I L I1 L1) (h' : FR q I1 L1 I2 L2) (hr : ∀ a, ¬ r a → ¬ p a ∧ ¬ q a) : FR r I L I2 L2 := ⟨fun a j x y => (h'.1 a j (hr a x).2 y).trans (h.1 a j (hr a x).1 y), fun a j x y z u v => (h'.2 a j x y z u v).trans (h.2 a j x y z u v)⟩
theorem FR.mono {p r : Nat → Prop} {I L I1 L1 : Nat → Int → Int} (h : FR p I L I1 L1) (hr : ∀ a, ¬ r a → ¬ p a) : FR r I L I1 L1 := ⟨fun a j x => h.1 a j (hr a x), h.2⟩
theorem RF.fr {p : Nat → Prop} {I L I' L' : Nat → Int → Int} (h : RF I L I' L') : FR p I L I' L' := ⟨fun a j _ y => h.1 a j (by rcases y with y | y; exact Or.inl y; exact Or.inr ⟨y.1, y.2.1, y.2.2.1⟩), fun a j x y z u _ => h.2 a j x y z u⟩
theorem FR.give {p : Nat → Prop} {I L I' L' : Nat → Int → Int} {f : Nat} {o n : Int} {g : Int → Int} (h1 : ∀ a j, qR a j → I' a j = putRow I f o n g a j) (h2 : ∀ a j, a ≠ 175 → a ≠ 195 → a ≠ 196 → a ≠ 197 → L' a j = L a j) (hp : p f) : FR p I L I' L' := ⟨fun a j x y => (h1 a j (by rcases y with y | y; exact Or.inl y; exact Or.inr ⟨y.1, y.2.1, y.2.2.1⟩)).trans (putRow_ne (fun e => x (e ▸ hp))), fun a j x y z u _ => h2 a j x y z u⟩
theorem FR.row {p : Nat → Prop} {I L L' : Nat → Int → Int} {f : Nat} {n : Int} {X : Int → Int} (hp : p f) (hl : ∀ x j, x ≠ 201 → L' x j = L x j) : FR p I L (rowTo I f n X) L' := ⟨fun a j x _ => rowTo_ne (fun e => x (e ▸ hp)), fun a j _ _ _ _ v => hl a j v⟩
theorem FR.put {p : Nat → Prop} {I L : Nat → Int → Int} {f : Nat} {o n : Int} {g : Int → Int} (hp : p f) : FR p I L (putRow I f o n g) L := ⟨fun a j x _ => putRow_ne (fun e => x (e ▸ hp)), fun _ _ _ _ _ _ _ => rfl⟩
theorem FR.bits {p : Nat → Prop} {I L K : Nat → Int → Int} {f : Nat} {lo : Int} (h : ∀ a j, (a ≠ f ∨ j < lo) → (a ≠ 175 ∨ j ≠ 23) → K a j = I a j) (hp : p f) : FR p I L K L := ⟨fun a j x y => h a j (Or.inl (fun e => x (e ▸ hp))) (by rcases y with y | y; exact Or.inl y; exact Or.inr y.2.2.2.1), fun _ _ _ _ _ _ _ => rfl⟩
theorem FR.unp {p : Nat → Prop} {I L K : Nat → Int → Int} {f : Nat} (h : ∀ a j, a ≠ f → (a ≠ 175 ∨ j ≠ 23) → K a j = I a j) (hp : p f) : FR p I L K L := ⟨fun a j x y => h a j (fun e => x (e ▸ hp)) (by rcases y with y | y; exact Or.inl y; exact Or.inr y.2.2.2.1), fun _ _ _ _ _ _ _ => rfl⟩
theorem FR.smp {p : Nat → Prop} {I L I' L' : Nat → Int → Int} {f : Nat} (h : (∀ a j, qR a j → a ≠ f → I' a j = I a j) ∧ ∀ a j, a ≠ 175 → a ≠ 195 → a ≠ 196 → a ≠ 197 → L' a j = L a j) (hp : p f) : FR p I L I' L' := ⟨fun a j x y => h.1 a j (by rcases y with y | y; exact Or.inl y; exact Or.inr ⟨y.1, y.2.1, y.2.2.1⟩) (fun e => x (e ▸ hp)), fun a j x y z u _ => h.2 a j x y z u⟩
theorem FR.up {p : Nat → Prop} {I L : Nat → Int → Int} {f : Nat} {j v : Int} (hp : p f) : FR p I L (a_up I f j v) L := ⟨fun a i x _ => a_up_ne (Or.inl (fun e => x (e ▸ hp))), fun _ _ _ _ _ _ _ => rfl⟩
theorem FR.b0 {p : Nat → Prop} {I L : Nat → Int → Int} {v : Int} : FR p I L (a_up I 175 23 v) L := ⟨fun a i _ y => a_up_ne (by rcases y with y | y; exact Or.inl y; exact Or.inr y.2.2.2.1), fun _ _ _ _ _ _ _ => rfl⟩
theorem FR.c0 {p : Nat → Prop} {I L : Nat → Int → Int} {v : Int} : FR p I L (a_up I 175 4 v) L := ⟨fun a i _ y => a_up_ne (by rcases y with y | y; exact Or.inl y; exact Or.inr y.2.2.2.2), fun _ _ _ _ _ _ _ => rfl⟩
theorem FR.sum {p : Nat → Prop} {I L K : Nat → Int → Int} (hl : ∀ x j, x ≠ 201 → K x j = L x j) : FR p I L I K := ⟨fun _ _ _ _ => rfl, fun a j _ _ _ _ v => hl a j v⟩
def RD (I L : Nat → Int → Int) (s : Int) : Prop := RSt I L ∧ DsaR I s ∧ Pws I
theorem RSt.fr {p : Nat → Prop} {I L I' L' : Nat → Int → Int} (h : RSt I L) (F : FR p I L I' L') (hp : ¬ p 193) : RSt I' L' := h.of (fun j => F.1 193 j hp (Or.inl (by decide))) (fun j => F.2 194 j (by decide) (by decide) (by decide) (by decide) (by decide))
theorem RD.fr {p : Nat → Prop} {I L I' L' : Nat → Int → Int} {s : Int} (h : RD I L s) (F : FR p I L I' L') (hp : ¬ p 193 ∧ ¬ p 203 ∧ ¬ p 175) : RD I' L' s := by
  have f : ∀ j, j ≠ 18 ∧ j ≠ 19 ∧ j ≠ 20 ∧ j ≠ 23 ∧ j ≠ 4 → I' 175 j = I 175 j := fun j x => F.1 175 j hp.2.2 (Or.inr x)
  have d := h.2.1
  refine ⟨h.1.fr F hp.1, ?_, fun j a b => (F.1 203 j hp.2.1 (Or.inl (by decide))).trans (h.2.2 j a b)⟩
  unfold DsaR at *
  rw [f 26 (by decide), f 32 (by decide), f 33 (by decide), f 34 (by decide), f 35 (by decide), f 36 (by decide), f 37 (by decide), f 38 (by decide), f 39 (by decide)]
  exact d
def HR (I : Nat → Int → Int) (r : Nat) (o n : Int) (g : Int → Int) : Prop := ∀ k, 0 ≤ k → k < n → I r (o + k) % 256 = g k
theorem HR.fr {p : Nat → Prop} {I L I' L' : Nat → Int → Int} {r : Nat} {o n : Int} {g : Int → Int} (h : HR I r o n g) (F : FR p I L I' L') (hp : ¬ p r) (hr : r ≠ 175) : HR I' r o n g := fun k x y => by rw [F.1 r _ hp (Or.inl hr)]; exact h k x y
theorem HR.put {I : Nat → Int → Int} {f : Nat} {o n : Int} {g g' : Int → Int} (hg : ∀ k, 0 ≤ k → k < n → g k % 256 = g' k) : HR (putRow I f o n g) f o n g' := fun k x y => by
  rw [putRow_in (by omega) (by omega), a_m8w, show o + k - o = k by omega]
  exact hg k x y
theorem HR.give {I I' : Nat → Int → Int} {f : Nat} {o n : Int} {s : Sp} (h1 : ∀ a j, qR a j → I' a j = putRow I f o n (spOut s) a j) (hf : f ≠ 175) : HR I' f o n (spOut s) := fun k x y => by
  rw [h1 f _ (Or.inl hf)]
  exact HR.put (g' := spOut s) (fun k _ _ => spOut_m s k) k x y
theorem dr0_26 {I L : Nat → Int → Int} (D : RD I L 0) : I 175 26 = 4 := D.2.1.1
theorem dr0_32 {I L : Nat → Int → Int} (D : RD I L 0) : I 175 32 = 4 := D.2.1.2.1
theorem dr0_33 {I L : Nat → Int → Int} (D : RD I L 0) : I 175 33 = 2 := D.2.1.2.2.1
theorem dr0_34 {I L : Nat → Int → Int} (D : RD I L 0) : I 175 34 = 39 := D.2.1.2.2.2.1
theorem dr0_35 {I L : Nat → Int → Int} (D : RD I L 0) : I 175 35 = 131072 := D.2.1.2.2.2.2.1
theorem dr0_36 {I L : Nat → Int → Int} (D : RD I L 0) : I 175 36 = 95232 := D.2.1.2.2.2.2.2.1
theorem dr0_37 {I L : Nat → Int → Int} (D : RD I L 0) : I 175 37 = 80 := D.2.1.2.2.2.2.2.2.1
theorem dr0_38 {I L : Nat → Int → Int} (D : RD I L 0) : I 175 38 = 32 := D.2.1.2.2.2.2.2.2.2.1
theorem dr0_39 {I L : Nat → Int → Int} (D : RD I L 0) : I 175 39 = 18 := D.2.1.2.2.2.2.2.2.2.2
theorem dr1_26 {I L : Nat → Int → Int} (D : RD I L 1) : I 175 26 = 6 := D.2.1.1
theorem dr1_32 {I L : Nat → Int → Int} (D : RD I L 1) : I 175 32 = 5 := D.2.1.2.1
theorem dr1_33 {I L : Nat → Int → Int} (D : RD I L 1) : I 175 33 = 4 := D.2.1.2.2.1
theorem dr1_34 {I L : Nat → Int → Int} (D : RD I L 1) : I 175 34 = 49 := D.2.1.2.2.2.1
theorem dr1_35 {I L : Nat → Int → Int} (D : RD I L 1) : I 175 35 = 524288 := D.2.1.2.2.2.2.1
theorem dr1_36 {I L : Nat → Int → Int} (D : RD I L 1) : I 175 36 = 261888 := D.2.1.2.2.2.2.2.1
theorem dr1_37 {I L : Nat → Int → Int} (D : RD I L 1) : I 175 37 = 55 := D.2.1.2.2.2.2.2.2.1
theorem dr1_38 {I L : Nat → Int → Int} (D : RD I L 1) : I 175 38 = 48 := D.2.1.2.2.2.2.2.2.2.1
theorem dr1_39 {I L : Nat → Int → Int} (D : RD I L 1) : I 175 39 = 20 := D.2.1.2.2.2.2.2.2.2.2
theorem dr2_26 {I L : Nat → Int → Int} (D : RD I L 2) : I 175 26 = 8 := D.2.1.1
theorem dr2_32 {I L : Nat → Int → Int} (D : RD I L 2) : I 175 32 = 7 := D.2.1.2.1
theorem dr2_33 {I L : Nat → Int → Int} (D : RD I L 2) : I 175 33 = 2 := D.2.1.2.2.1
theorem dr2_34 {I L : Nat → Int → Int} (D : RD I L 2) : I 175 34 = 60 := D.2.1.2.2.2.1
theorem dr2_35 {I L : Nat → Int → Int} (D : RD I L 2) : I 175 35 = 524288 := D.2.1.2.2.2.2.1
theorem dr2_36 {I L : Nat → Int → Int} (D : RD I L 2) : I 175 36 = 261888 := D.2.1.2.2.2.2.2.1
theorem dr2_37 {I L : Nat → Int → Int} (D : RD I L 2) : I 175 37 = 75 := D.2.1.2.2.2.2.2.2.1
theorem dr2_38 {I L : Nat → Int → Int} (D : RD I L 2) : I 175 38 = 64 := D.2.1.2.2.2.2.2.2.2.1
theorem dr2_39 {I L : Nat → Int → Int} (D : RD I L 2) : I 175 39 = 20 := D.2.1.2.2.2.2.2.2.2.2
set_option maxHeartbeats 800000 in
set_option maxRecDepth 100000 in
theorem c_Mo_before {l : Launch} {G : a_G} {h : Hp} {I L : Nat → Int → Int} {how : Int} (hw : how < 1) : AW l G M_Mo_before (Rx none (sD h I L)) 0 (a_ar 0 [vr 175, vi how]) [] (sD h I L) := by
  suffices key : ∀ P : a_R → Hp → Prop, (P (.inl none) (sD h I L)) → AW l G M_Mo_before P 0 [(0, vr 175), (1, vi how)] [] (sD h I L) from key _ (⟨rfl, rfl⟩)
  intro P hP
  refine aw_iload_n d_Mo_before_0 rfl rfl ?_
  refine aw_iconst d_Mo_before_1 ⟨by decide, by decide⟩ ?_
  refine aw_icmp_ge (tgt := 6) d_Mo_before_2 (by decide) (fun c_2 => False.elim (by omega)) (fun c_2 => ?_)
  exact aw_vret d_Mo_before_5 rfl hP
set_option maxHeartbeats 800000 in
set_option maxRecDepth 100000 in
theorem c_Mo_putSigned0 {l : Launch} {G : a_G} {h : Hp} {I L : Nat → Int → Int} (S : Shp h) (RS : RSt I L) (rb : RB I) (hk : 10 < I 175 18) (ok : spLt (spR I L)) : AW l G M_Mo_putSigned (Ret (fun _ : (Nat → Int → Int) × (Nat → Int → Int) => none) (fun u => sD h u.1 u.2) (fun u => RF I L u.1 u.2 ∧ spR u.1 u.2 = (spPart (spPart (spTake (spTake (spR I L) 0) (I 186 4)) (fun k => I 182 (0 + k)) (I 186 4).toNat) (fun k => I 181 (0 + k)) (I 186 3).toNat) ∧ u.1 175 18 = I 175 18)) 0 (a_ar 0 [vr 175, vi 0]) [] (sD h I L) := by
  suffices key : ∀ P : a_R → Hp → Prop, (∀ I2 L2, RF I L I2 L2 → spR I2 L2 = (spPart (spPart (spTake (spTake (spR I L) 0) (I 186 4)) (fun k => I 182 (0 + k)) (I 186 4).toNat) (fun k => I 181 (0 + k)) (I 186 3).toNat) → I2 175 18 = I 175 18 → P (.inl none) (sD h I2 L2)) → AW l G M_Mo_putSigned P 0 [(0, vr 175), (1, vi 0)] [] (sD h I L) from key _ (fun I2 L2 q1 q2 q3 => ⟨(I2, L2), rfl, rfl, q1, q2, q3⟩)
  intro P hP
  refine aw_iload_n d_Mo_putSigned_0 rfl rfl ?_
  refine aw_if_lt (tgt := 44) d_Mo_putSigned_1 (by decide) (fun c_1 => False.elim (by omega)) (fun c_1 => ?_)
  refine aw_aload_n d_Mo_putSigned_4 rfl rfl ?_
  refine aw_iload_n d_Mo_putSigned_5 rfl rfl ?_
  refine aw_if_ne (tgt := 13) d_Mo_putSigned_6 (by decide) (fun c_6 => False.elim (by omega)) (fun c_6 => ?_)
  refine aw_iconst d_Mo_putSigned_9 ⟨by decide, by decide⟩ ?_
  refine aw_goto (tgt := 14) d_Mo_putSigned_10 (by decide) ?_
  refine ax_Vr (st := []) (as := [vi 0]) (b := 175) d_Mo_putSigned_14 cs_Mo_putSigned_14 (k_175 S) (c_Mo_put1 S RS hk ok) rfl rfl rfl (fun u_14 q_14 => ?_)
  obtain ⟨I1, L1⟩ := u_14
  obtain ⟨F1, e1, k1⟩ := q_14
  dsimp only at F1 e1 k1
  show AW l G M_Mo_putSigned P 17 [(0, vr 175), (1, vi 0)] [] (sD h I1 L1)
  refine aw_aload_n d_Mo_putSigned_17 rfl rfl ?_
  refine aw_aload_n d_Mo_putSigned_18 rfl rfl ?_
  refine ax_getR (b := 186) d_Mo_putSigned_19 fd_Mo_18 (k_175 S) (r_175_2 S) ?_
  refine aw_iconst d_Mo_putSigned_22 ⟨by decide, by decide⟩ ?_
  refine ax_ialde (x := I 186 4) d_Mo_putSigned_23 (k_186 S) (by omega) (by rw [n_186 S]; omega) (Eq.trans (F1.1 186 4 (Or.inl (by decide))) (rfl)) ?_
  refine ax_Vr (st := []) (as := [vi (I 186 4)]) (b := 175) d_Mo_putSigned_24 cs_Mo_putSigned_24 (k_175 S) (c_Mo_put1 S (RS.rf F1) (by omega) (by rw [e1]; exact spTake_lt ok _)) rfl rfl rfl (fun u_24 q_24 => ?_)
  obtain ⟨I2, L2⟩ := u_24
  obtain ⟨F2, e2, k2⟩ := q_24
  dsimp only at F2 e2 k2
  show AW l G M_Mo_putSigned P 27 [(0, vr 175), (1, vi 0)] [] (sD h I2 L2)
  refine aw_aload_n d_Mo_putSigned_27 rfl rfl ?_
  refine aw_aload_n d_Mo_putSigned_28 rfl rfl ?_
  refine ax_getR (b := 177) d_Mo_putSigned_29 fd_Mo_15 (k_175 S) (r_175_1 S) ?_
  refine aw_iconst d_Mo_putSigned_32 ⟨by decide, by decide⟩ ?_
  refine ax_aald (b := 182) d_Mo_putSigned_33 ⟨by rw [(k_177 S)]; decide, by rw [(k_177 S)]; decide⟩ (by omega) (by rw [n_177 S]; omega) (g_177 S (j := 4) (by decide) (by decide)) ?_
  refine aw_iconst d_Mo_putSigned_34 ⟨by decide, by decide⟩ ?_
  refine aw_aload_n d_Mo_putSigned_35 rfl rfl ?_
  refine ax_getR (b := 186) d_Mo_putSigned_36 fd_Mo_18 (k_175 S) (r_175_2 S) ?_
  refine aw_iconst d_Mo_putSigned_39 ⟨by decide, by decide⟩ ?_
  refine ax_ialde (x := I 186 4) d_Mo_putSigned_40 (k_186 S) (by omega) (by rw [n_186 S]; omega) (Eq.trans ((F1.tr F2).1 186 4 (Or.inl (by decide))) (rfl)) ?_
  refine ax_Vr (st := []) (as := [vr 182, vi 0, vi (I 186 4)]) (b := 175) d_Mo_putSigned_41 cs_Mo_putSigned_41 (k_175 S) (c_Mo_put3 S ((RS.rf F1).rf F2) (by omega) (by rw [e2, e1]; exact spTake_lt (spTake_lt ok _) _) ⟨k_182 S, by decide, by decide⟩ (by rw [n_182 S]; have := rb.1 4 (by decide) (by decide); omega)) rfl rfl rfl (fun u_41 q_41 => ?_)
  obtain ⟨I3, L3⟩ := u_41
  obtain ⟨F3, e3, k3⟩ := q_41
  dsimp only at F3 e3 k3
  show AW l G M_Mo_putSigned P 44 [(0, vr 175), (1, vi 0)] [] (sD h I3 L3)
  refine aw_iload_n d_Mo_putSigned_44 rfl rfl ?_
  refine aw_if_le (tgt := 126) d_Mo_putSigned_45 (by decide) (fun c_45 => ?_) (fun c_45 => False.elim (by omega))
  refine aw_aload_n d_Mo_putSigned_126 rfl rfl ?_
  refine aw_aload_n d_Mo_putSigned_127 rfl rfl ?_
  refine ax_getR (b := 177) d_Mo_putSigned_128 fd_Mo_15 (k_175 S) (r_175_1 S) ?_
  refine aw_iconst d_Mo_putSigned_131 ⟨by decide, by decide⟩ ?_
  refine ax_aald (b := 181) d_Mo_putSigned_132 ⟨by rw [(k_177 S)]; decide, by rw [(k_177 S)]; decide⟩ (by omega) (by rw [n_177 S]; omega) (g_177 S (j := 3) (by decide) (by decide)) ?_
  refine aw_iconst d_Mo_putSigned_133 ⟨by decide, by decide⟩ ?_
  refine aw_aload_n d_Mo_putSigned_134 rfl rfl ?_
  refine ax_getR (b := 186) d_Mo_putSigned_135 fd_Mo_18 (k_175 S) (r_175_2 S) ?_
  refine aw_iconst d_Mo_putSigned_138 ⟨by decide, by decide⟩ ?_
  refine ax_ialde (x := I 186 3) d_Mo_putSigned_139 (k_186 S) (by omega) (by rw [n_186 S]; omega) (Eq.trans (((F1.tr F2).tr F3).1 186 3 (Or.inl (by decide))) (rfl)) ?_
  refine ax_Vr (st := []) (as := [vr 181, vi 0, vi (I 186 3)]) (b := 175) d_Mo_putSigned_140 cs_Mo_putSigned_140 (k_175 S) (c_Mo_put3 S (((RS.rf F1).rf F2).rf F3) (by omega) (by rw [e3, e2, e1]; exact spPart_lt (spTake_lt (spTake_lt ok _) _) _ _) ⟨k_181 S, by decide, by decide⟩ (by rw [n_181 S]; have := rb.1 3 (by decide) (by decide); omega)) rfl rfl rfl (fun u_140 q_140 => ?_)
  obtain ⟨I4, L4⟩ := u_140
  obtain ⟨F4, e4, k4⟩ := q_140
  dsimp only at F4 e4 k4
  show AW l G M_Mo_putSigned P 143 [(0, vr 175), (1, vi 0)] [] (sD h I4 L4)
  exact aw_vret d_Mo_putSigned_143 rfl (hP I4 L4 (((F1.tr F2).tr F3).tr F4) (by rw [e4, e3, e2, e1, show (fun k => I2 182 (0 + k)) = (fun k => I 182 (0 + k)) from funext (fun k => (F1.tr F2).1 182 _ (Or.inl (by decide))), show (fun k => I3 181 (0 + k)) = (fun k => I 181 (0 + k)) from funext (fun k => ((F1.tr F2).tr F3).1 181 _ (Or.inl (by decide)))]) (by omega))
set_option maxHeartbeats 800000 in
set_option maxRecDepth 100000 in
theorem c_Mo_putSignedN {l : Launch} {G : a_G} {h : Hp} {I L : Nat → Int → Int} (S : Shp h) (RS : RSt I L) (rb : RB I) (hk : 10 < I 175 18) (ok : spLt (spR I L)) : AW l G M_Mo_putSigned (Ret (fun _ : (Nat → Int → Int) × (Nat → Int → Int) => none) (fun u => sD h u.1 u.2) (fun u => RF I L u.1 u.2 ∧ spR u.1 u.2 = (spPart (spR I L) (fun k => I 181 (0 + k)) (I 186 3).toNat) ∧ u.1 175 18 = I 175 18)) 0 (a_ar 0 [vr 175, vi (-1)]) [] (sD h I L) := by
  suffices key : ∀ P : a_R → Hp → Prop, (∀ I2 L2, RF I L I2 L2 → spR I2 L2 = (spPart (spR I L) (fun k => I 181 (0 + k)) (I 186 3).toNat) → I2 175 18 = I 175 18 → P (.inl none) (sD h I2 L2)) → AW l G M_Mo_putSigned P 0 [(0, vr 175), (1, vi (-1))] [] (sD h I L) from key _ (fun I2 L2 q1 q2 q3 => ⟨(I2, L2), rfl, rfl, q1, q2, q3⟩)
  intro P hP
  refine aw_iload_n d_Mo_putSigned_0 rfl rfl ?_
  refine aw_if_lt (tgt := 44) d_Mo_putSigned_1 (by decide) (fun c_1 => ?_) (fun c_1 => False.elim (by omega))
  refine aw_iload_n d_Mo_putSigned_44 rfl rfl ?_
  refine aw_if_le (tgt := 126) d_Mo_putSigned_45 (by decide) (fun c_45 => ?_) (fun c_45 => False.elim (by omega))
  refine aw_aload_n d_Mo_putSigned_126 rfl rfl ?_
  refine aw_aload_n d_Mo_putSigned_127 rfl rfl ?_
  refine ax_getR (b := 177) d_Mo_putSigned_128 fd_Mo_15 (k_175 S) (r_175_1 S) ?_
  refine aw_iconst d_Mo_putSigned_131 ⟨by decide, by decide⟩ ?_
  refine ax_aald (b := 181) d_Mo_putSigned_132 ⟨by rw [(k_177 S)]; decide, by rw [(k_177 S)]; decide⟩ (by omega) (by rw [n_177 S]; omega) (g_177 S (j := 3) (by decide) (by decide)) ?_
  refine aw_iconst d_Mo_putSigned_133 ⟨by decide, by decide⟩ ?_
  refine aw_aload_n d_Mo_putSigned_134 rfl rfl ?_
  refine ax_getR (b := 186) d_Mo_putSigned_135 fd_Mo_18 (k_175 S) (r_175_2 S) ?_
  refine aw_iconst d_Mo_putSigned_138 ⟨by decide, by decide⟩ ?_
  refine ax_ialde (x := I 186 3) d_Mo_putSigned_139 (k_186 S) (by omega) (by rw [n_186 S]; omega) (rfl) ?_
  refine ax_Vr (st := []) (as := [vr 181, vi 0, vi (I 186 3)]) (b := 175) d_Mo_putSigned_140 cs_Mo_putSigned_140 (k_175 S) (c_Mo_put3 S RS hk ok ⟨k_181 S, by decide, by decide⟩ (by rw [n_181 S]; have := rb.1 3 (by decide) (by decide); omega)) rfl rfl rfl (fun u_140 q_140 => ?_)
  obtain ⟨I1, L1⟩ := u_140
  obtain ⟨F1, e1, k1⟩ := q_140
  dsimp only at F1 e1 k1
  show AW l G M_Mo_putSigned P 143 [(0, vr 175), (1, vi (-1))] [] (sD h I1 L1)
  exact aw_vret d_Mo_putSigned_143 rfl (hP I1 L1 F1 e1 k1)
set_option maxHeartbeats 800000 in
set_option maxRecDepth 100000 in
theorem c_Mo_digestMessage0 {l : Launch} {G : a_G} {h : Hp} {I L : Nat → Int → Int} {f : Nat} {pa : Int} (S : Shp h) (RS : RSt I L) (rb : RB I) (Zf : hK h f = 2 ∧ 12 ≤ f ∧ f ≠ 175) (hc : 0 ≤ pa ∧ pa + 64 ≤ hN h f ∧ hN h f < 1000000) : AW l G M_Mo_digestMessage (Ret (fun _ : (Nat → Int → Int) × (Nat → Int → Int) => none) (fun u => sD h u.1 u.2) (fun u => FR (fun a => a = 265) I L u.1 u.2 ∧ HR u.1 265 0 64 (spOut (dgS (fun k => I f (pa + k)) (0) (fun k => I 182 (0 + k)) (I 186 4) (fun k => I 181 (0 + k)) (I 186 3))))) 0 (a_ar 0 [vr 175, vr f, vi pa, vi 0]) [] (sD h I L) := by
  suffices key : ∀ P : a_R → Hp → Prop, (∀ I2 L2, FR (fun a => a = 265) I L I2 L2 → HR I2 265 0 64 (spOut (dgS (fun k => I f (pa + k)) (0) (fun k => I 182 (0 + k)) (I 186 4) (fun k => I 181 (0 + k)) (I 186 3))) → P (.inl none) (sD h I2 L2)) → AW l G M_Mo_digestMessage P 0 [(0, vr 175), (1, vr f), (2, vi pa), (3, vi 0)] [] (sD h I L) from key _ (fun I2 L2 q1 q2 => ⟨(I2, L2), rfl, rfl, q1, q2⟩)
  intro P hP
  refine aw_aload_n d_Mo_digestMessage_0 rfl rfl ?_
  refine aw_iload_n d_Mo_digestMessage_1 rfl rfl ?_
  refine ax_V (st := []) (as := [vi 0]) (b := 175) (v := none) (h' := sD h I L) d_Mo_digestMessage_2 cs_Mo_digestMessage_2 (k_175 S) (c_Mo_before (by decide)) rfl rfl rfl ?_
  show AW l G M_Mo_digestMessage P 5 [(0, vr 175), (1, vr f), (2, vi pa), (3, vi 0)] [] (sD h I L)
  refine aw_aload_n d_Mo_digestMessage_5 rfl rfl ?_
  refine aw_bipush d_Mo_digestMessage_6 ⟨by decide, by decide⟩ (by decide) ?_
  refine ax_Vr (st := []) (as := [vi 12]) (b := 175) d_Mo_digestMessage_8 cs_Mo_digestMessage_8 (k_175 S) (c_Mo_begin12 S) rfl rfl rfl (fun u_8 q_8 => ?_)
  obtain ⟨I1, L1⟩ := u_8
  obtain ⟨F1, e1, k1⟩ := q_8
  dsimp only at F1 e1 k1
  show AW l G M_Mo_digestMessage P 11 [(0, vr 175), (1, vr f), (2, vi pa), (3, vi 0)] [] (sD h I1 L1)
  refine aw_aload_n d_Mo_digestMessage_11 rfl rfl ?_
  refine aw_aload_n d_Mo_digestMessage_12 rfl rfl ?_
  refine aw_iload_n d_Mo_digestMessage_13 rfl rfl ?_
  refine aw_bipush d_Mo_digestMessage_14 ⟨by decide, by decide⟩ (by decide) ?_
  refine ax_Vr (st := []) (as := [vr f, vi pa, vi 64]) (b := 175) d_Mo_digestMessage_16 cs_Mo_digestMessage_16 (k_175 S) (c_Mo_put3 S (RS.rf F1) (by omega) (by rw [e1]; exact spStart_lt (by decide) (by decide)) ⟨Zf.1, Zf.2.1, Zf.2.2⟩ (by omega)) rfl rfl rfl (fun u_16 q_16 => ?_)
  obtain ⟨I2, L2⟩ := u_16
  obtain ⟨F2, e2, k2⟩ := q_16
  dsimp only at F2 e2 k2
  show AW l G M_Mo_digestMessage P 19 [(0, vr 175), (1, vr f), (2, vi pa), (3, vi 0)] [] (sD h I2 L2)
  refine aw_aload_n d_Mo_digestMessage_19 rfl rfl ?_
  refine aw_iload_n d_Mo_digestMessage_20 rfl rfl ?_
  refine ax_Vr (st := []) (as := [vi 0]) (b := 175) d_Mo_digestMessage_21 cs_Mo_digestMessage_21 (k_175 S) (c_Mo_putSigned0 S ((RS.rf F1).rf F2) ⟨fun s a b => by rw [(F1.tr F2).1 186 s (Or.inl (by decide))]; exact rb.1 s a b, by rw [(F1.tr F2).1 175 3 (Or.inr (by decide))]; exact rb.2⟩ (by omega) (by rw [e2, e1]; exact spPart_lt (spStart_lt (by decide) (by decide)) _ _)) rfl rfl rfl (fun u_21 q_21 => ?_)
  obtain ⟨I3, L3⟩ := u_21
  obtain ⟨F3, e3, k3⟩ := q_21
  dsimp only at F3 e3 k3
  show AW l G M_Mo_digestMessage P 24 [(0, vr 175), (1, vr f), (2, vi pa), (3, vi 0)] [] (sD h I3 L3)
  have eS : spTurn (spR I3 L3) = (dgS (fun k => I f (pa + k)) (0) (fun k => I 182 (0 + k)) (I 186 4) (fun k => I 181 (0 + k)) (I 186 3)) := by rw [e3, e2, e1, dgS_0]; rw [show (fun k => I2 182 (0 + k)) = (fun k => I 182 (0 + k)) from funext (fun k => (F1.tr F2).1 182 _ (Or.inl (by decide))), (F1.tr F2).1 186 4 (Or.inl (by decide)), show (fun k => I2 181 (0 + k)) = (fun k => I 181 (0 + k)) from funext (fun k => (F1.tr F2).1 181 _ (Or.inl (by decide))), show (fun k => I1 f (pa + k)) = (fun k => I f (pa + k)) from funext (fun k => F1.1 f _ (Or.inl Zf.2.2)), (F1.tr F2).1 186 3 (Or.inl (by decide)), show Int.toNat 64 = 64 from rfl]
  refine aw_aload_n d_Mo_digestMessage_24 rfl rfl ?_
  refine aw_aload_n d_Mo_digestMessage_25 rfl rfl ?_
  refine ax_getR (b := 265) d_Mo_digestMessage_26 fd_Mo_93 (k_175 S) (r_175_41 S) ?_
  refine aw_iconst d_Mo_digestMessage_29 ⟨by decide, by decide⟩ ?_
  refine aw_bipush d_Mo_digestMessage_30 ⟨by decide, by decide⟩ (by decide) ?_
  refine ax_Vr (st := []) (as := [vr 265, vi 0, vi 64]) (b := 175) d_Mo_digestMessage_32 cs_Mo_digestMessage_32 (k_175 S) (c_Mo_give S (((RS.rf F1).rf F2).rf F3) (by omega) (by rw [e3, e2, e1]; exact (spPart_lt (spPart_lt (spTake_lt (spTake_lt (spPart_lt (spStart_lt (by decide) (by decide)) _ _) _) _) _ _) _ _).1) ⟨k_265 S, by decide, by decide, by decide⟩ (by rw [n_265 S]; decide)) rfl rfl rfl (fun u_32 q_32 => ?_)
  obtain ⟨I4, L4⟩ := u_32
  obtain ⟨F4, f4, e4, k4⟩ := q_32
  dsimp only at F4 f4 e4 k4
  rw [eS] at F4
  show AW l G M_Mo_digestMessage P 35 [(0, vr 175), (1, vr f), (2, vi pa), (3, vi 0)] [] (sD h I4 L4)
  exact aw_vret d_Mo_digestMessage_35 rfl (hP I4 L4 ((((F1.tr F2).tr F3).fr (p := fun a => a = 265)).tr (FR.give (p := fun a => a = 265) F4 f4 rfl) (fun a x => ⟨x, x⟩)) (HR.give F4 (by decide)))
set_option maxHeartbeats 800000 in
set_option maxRecDepth 100000 in
theorem c_Mo_digestMessageN {l : Launch} {G : a_G} {h : Hp} {I L : Nat → Int → Int} {f : Nat} {pa : Int} (S : Shp h) (RS : RSt I L) (rb : RB I) (Zf : hK h f = 2 ∧ 12 ≤ f ∧ f ≠ 175) (hc : 0 ≤ pa ∧ pa + 64 ≤ hN h f ∧ hN h f < 1000000) : AW l G M_Mo_digestMessage (Ret (fun _ : (Nat → Int → Int) × (Nat → Int → Int) => none) (fun u => sD h u.1 u.2) (fun u => FR (fun a => a = 265) I L u.1 u.2 ∧ HR u.1 265 0 64 (spOut (dgS (fun k => I f (pa + k)) (-1) (fun k => I 182 (0 + k)) (I 186 4) (fun k => I 181 (0 + k)) (I 186 3))))) 0 (a_ar 0 [vr 175, vr f, vi pa, vi (-1)]) [] (sD h I L) := by
  suffices key : ∀ P : a_R → Hp → Prop, (∀ I2 L2, FR (fun a => a = 265) I L I2 L2 → HR I2 265 0 64 (spOut (dgS (fun k => I f (pa + k)) (-1) (fun k => I 182 (0 + k)) (I 186 4) (fun k => I 181 (0 + k)) (I 186 3))) → P (.inl none) (sD h I2 L2)) → AW l G M_Mo_digestMessage P 0 [(0, vr 175), (1, vr f), (2, vi pa), (3, vi (-1))] [] (sD h I L) from key _ (fun I2 L2 q1 q2 => ⟨(I2, L2), rfl, rfl, q1, q2⟩)
  intro P hP
  refine aw_aload_n d_Mo_digestMessage_0 rfl rfl ?_
  refine aw_iload_n d_Mo_digestMessage_1 rfl rfl ?_
  refine ax_V (st := []) (as := [vi (-1)]) (b := 175) (v := none) (h' := sD h I L) d_Mo_digestMessage_2 cs_Mo_digestMessage_2 (k_175 S) (c_Mo_before (by decide)) rfl rfl rfl ?_
  show AW l G M_Mo_digestMessage P 5 [(0, vr 175), (1, vr f), (2, vi pa), (3, vi (-1))] [] (sD h I L)
  refine aw_aload_n d_Mo_digestMessage_5 rfl rfl ?_
  refine aw_bipush d_Mo_digestMessage_6 ⟨by decide, by decide⟩ (by decide) ?_
  refine ax_Vr (st := []) (as := [vi 12]) (b := 175) d_Mo_digestMessage_8 cs_Mo_digestMessage_8 (k_175 S) (c_Mo_begin12 S) rfl rfl rfl (fun u_8 q_8 => ?_)
  obtain ⟨I1, L1⟩ := u_8
  obtain ⟨F1, e1, k1⟩ := q_8
  dsimp only at F1 e1 k1
  show AW l G M_Mo_digestMessage P 11 [(0, vr 175), (1, vr f), (2, vi pa), (3, vi (-1))] [] (sD h I1 L1)
  refine aw_aload_n d_Mo_digestMessage_11 rfl rfl ?_
  refine aw_aload_n d_Mo_digestMessage_12 rfl rfl ?_
  refine aw_iload_n d_Mo_digestMessage_13 rfl rfl ?_
  refine aw_bipush d_Mo_digestMessage_14 ⟨by decide, by decide⟩ (by decide) ?_
  refine ax_Vr (st := []) (as := [vr f, vi pa, vi 64]) (b := 175) d_Mo_digestMessage_16 cs_Mo_digestMessage_16 (k_175 S) (c_Mo_put3 S (RS.rf F1) (by omega) (by rw [e1]; exact spStart_lt (by decide) (by decide)) ⟨Zf.1, Zf.2.1, Zf.2.2⟩ (by omega)) rfl rfl rfl (fun u_16 q_16 => ?_)
  obtain ⟨I2, L2⟩ := u_16
  obtain ⟨F2, e2, k2⟩ := q_16
  dsimp only at F2 e2 k2
  show AW l G M_Mo_digestMessage P 19 [(0, vr 175), (1, vr f), (2, vi pa), (3, vi (-1))] [] (sD h I2 L2)
  refine aw_aload_n d_Mo_digestMessage_19 rfl rfl ?_
  refine aw_iload_n d_Mo_digestMessage_20 rfl rfl ?_
  refine ax_Vr (st := []) (as := [vi (-1)]) (b := 175) d_Mo_digestMessage_21 cs_Mo_digestMessage_21 (k_175 S) (c_Mo_putSignedN S ((RS.rf F1).rf F2) ⟨fun s a b => by rw [(F1.tr F2).1 186 s (Or.inl (by decide))]; exact rb.1 s a b, by rw [(F1.tr F2).1 175 3 (Or.inr (by decide))]; exact rb.2⟩ (by omega) (by rw [e2, e1]; exact spPart_lt (spStart_lt (by decide) (by decide)) _ _)) rfl rfl rfl (fun u_21 q_21 => ?_)
  obtain ⟨I3, L3⟩ := u_21
  obtain ⟨F3, e3, k3⟩ := q_21
  dsimp only at F3 e3 k3
  show AW l G M_Mo_digestMessage P 24 [(0, vr 175), (1, vr f), (2, vi pa), (3, vi (-1))] [] (sD h I3 L3)
  have eS : spTurn (spR I3 L3) = (dgS (fun k => I f (pa + k)) (-1) (fun k => I 182 (0 + k)) (I 186 4) (fun k => I 181 (0 + k)) (I 186 3)) := by rw [e3, e2, e1, dgS_n]; rw [show (fun k => I2 181 (0 + k)) = (fun k => I 181 (0 + k)) from funext (fun k => (F1.tr F2).1 181 _ (Or.inl (by decide))), show (fun k => I1 f (pa + k)) = (fun k => I f (pa + k)) from funext (fun k => F1.1 f _ (Or.inl Zf.2.2)), (F1.tr F2).1 186 3 (Or.inl (by decide)), show Int.toNat 64 = 64 from rfl]
  refine aw_aload_n d_Mo_digestMessage_24 rfl rfl ?_
  refine aw_aload_n d_Mo_digestMessage_25 rfl rfl ?_
  refine ax_getR (b := 265) d_Mo_digestMessage_26 fd_Mo_93 (k_175 S) (r_175_41 S) ?_
  refine aw_iconst d_Mo_digestMessage_29 ⟨by decide, by decide⟩ ?_
  refine aw_bipush d_Mo_digestMessage_30 ⟨by decide, by decide⟩ (by decide) ?_
  refine ax_Vr (st := []) (as := [vr 265, vi 0, vi 64]) (b := 175) d_Mo_digestMessage_32 cs_Mo_digestMessage_32 (k_175 S) (c_Mo_give S (((RS.rf F1).rf F2).rf F3) (by omega) (by rw [e3, e2, e1]; exact (spPart_lt (spPart_lt (spStart_lt (by decide) (by decide)) _ _) _ _).1) ⟨k_265 S, by decide, by decide, by decide⟩ (by rw [n_265 S]; decide)) rfl rfl rfl (fun u_32 q_32 => ?_)
  obtain ⟨I4, L4⟩ := u_32
  obtain ⟨F4, f4, e4, k4⟩ := q_32
  dsimp only at F4 f4 e4 k4
  rw [eS] at F4
  show AW l G M_Mo_digestMessage P 35 [(0, vr 175), (1, vr f), (2, vi pa), (3, vi (-1))] [] (sD h I4 L4)
  exact aw_vret d_Mo_digestMessage_35 rfl (hP I4 L4 ((((F1.tr F2).tr F3).fr (p := fun a => a = 265)).tr (FR.give (p := fun a => a = 265) F4 f4 rfl) (fun a x => ⟨x, x⟩)) (HR.give F4 (by decide)))
set_option maxHeartbeats 800000 in
set_option maxRecDepth 100000 in
theorem c_Mo_challenge0_38 {l : Launch} {G : a_G} {h : Hp} {I L : Nat → Int → Int} {mu : Int → Int} {X : Int → Int → Int} (S : Shp h) (D : RD I L 0) (hX : ∀ m, 0 ≤ m → m < 4 → eqQ (I (205 + (38 + m).toNat)) (X m)) (bX : ∀ m, 0 ≤ m → m < 4 → ∀ j, 0 ≤ j → j < 256 → 0 ≤ X m j ∧ X m j < 2 ^ 6) (hm : HR I 265 0 64 mu) (hmm : ∀ k, 0 ≤ k → k < 64 → mu k % 256 = mu k) : AW l G M_Mo_challenge (Ret (fun _ : (Nat → Int → Int) × (Nat → Int → Int) => none) (fun u => sD h u.1 u.2) (fun u => FR (fun a => a = 262 ∨ a = 267) I L u.1 u.2 ∧ HR u.1 267 0 32 (spOut (hhS mu (fun x => gB (X (x / 192)) 6 (x % 192)) 768)))) 0 (a_ar 0 [vr 175, vi 38, vr 267]) [] (sD h I L) := by
  suffices key : ∀ P : a_R → Hp → Prop, (∀ I2 L2, FR (fun a => a = 262 ∨ a = 267) I L I2 L2 → HR I2 267 0 32 (spOut (hhS mu (fun x => gB (X (x / 192)) 6 (x % 192)) 768)) → P (.inl none) (sD h I2 L2)) → AW l G M_Mo_challenge P 0 [(0, vr 175), (1, vi 38), (2, vr 267)] [] (sD h I L) from key _ (fun I2 L2 q1 q2 => ⟨(I2, L2), rfl, rfl, q1, q2⟩)
  intro P hP
  refine aw_aload_n d_Mo_challenge_0 rfl rfl ?_
  refine aw_iconst d_Mo_challenge_1 ⟨by decide, by decide⟩ ?_
  refine ax_putI d_Mo_challenge_2 fd_Mo_216 (k_175 S) (by decide) rfl ?_
  refine aw_aload_n d_Mo_challenge_5 rfl rfl ?_
  refine ax_getIe (x := 95232) d_Mo_challenge_6 fd_Mo_242 (k_175 S) (Eq.trans (a_up_ne (Or.inr (by decide))) (dr0_36 D)) ?_
  refine aw_ldc (n := 261888) d_Mo_challenge_9 lc_Mo_241 ⟨by decide, by decide⟩ ?_
  refine aw_icmp_ne (tgt := 18) d_Mo_challenge_11 (by decide) (fun c_11 => ?_) (fun c_11 => False.elim (by omega))
  refine aw_bipush d_Mo_challenge_18 ⟨by decide, by decide⟩ (by decide) ?_
  refine aw_istore_n (lv' := [(3, vi 6), (0, vr 175), (1, vi 38), (2, vr 267)]) d_Mo_challenge_20 rfl (by decide) rfl ?_
  refine aw_iconst d_Mo_challenge_21 ⟨by decide, by decide⟩ ?_
  refine aw_istore (lv' := [(4, vi 0), (3, vi 6), (0, vr 175), (1, vi 38), (2, vr 267)]) d_Mo_challenge_22 (by decide) rfl ?_
  have lp_24 : ∀ (n_ : Nat) (i : Int) (K : Nat → Int → Int), (0 ≤ i ∧ i ≤ 4) → (FR (fun a => a = 262) I L K L) → (K 175 23 = 8 * (192 * i)) → (HR K 262 0 (192 * i) (fun x => gB (X (x / 192)) 6 (x % 192))) → ((4 - i).toNat) = n_ → AW l G M_Mo_challenge P 24 [(4, vi i), (3, vi 6), (2, vr 267), (1, vi 38), (0, vr 175)] [] (sD h K L) := by
    intro n_
    induction n_ using Nat.strongRecOn with
    | _ n_ ih_24 =>
    intro i K hi F b1 HK hm_24
    refine aw_iload d_Mo_challenge_24 rfl ?_
    refine aw_aload_n d_Mo_challenge_26 rfl rfl ?_
    refine ax_getIe (x := 4) d_Mo_challenge_27 fd_Mo_223 (k_175 S) (Eq.trans (F.1 175 26 (by omega) (Or.inr (by decide))) (dr0_26 D)) ?_
    refine aw_icmp_ge (tgt := 78) d_Mo_challenge_30 (by decide) (fun c_30 => ?_) (fun c_30 => ?_)
    · skip
      refine aw_aload_n d_Mo_challenge_78 rfl rfl ?_
      refine aw_bipush d_Mo_challenge_79 ⟨by decide, by decide⟩ (by decide) ?_
      have RS := D.1.fr F (by decide)
      refine ax_Vr (st := []) (as := [vi 12]) (b := 175) d_Mo_challenge_81 cs_Mo_challenge_81 (k_175 S) (c_Mo_begin12 S) rfl rfl rfl (fun u_81 q_81 => ?_)
      obtain ⟨I1, L1⟩ := u_81
      obtain ⟨F1, e1, k1⟩ := q_81
      dsimp only at F1 e1 k1
      show AW l G M_Mo_challenge P 84 [(4, vi i), (3, vi 6), (2, vr 267), (1, vi 38), (0, vr 175)] [] (sD h I1 L1)
      refine aw_aload_n d_Mo_challenge_84 rfl rfl ?_
      refine aw_aload_n d_Mo_challenge_85 rfl rfl ?_
      refine ax_getR (b := 265) d_Mo_challenge_86 fd_Mo_93 (k_175 S) (r_175_41 S) ?_
      refine aw_iconst d_Mo_challenge_89 ⟨by decide, by decide⟩ ?_
      refine aw_bipush d_Mo_challenge_90 ⟨by decide, by decide⟩ (by decide) ?_
      refine ax_Vr (st := []) (as := [vr 265, vi 0, vi 64]) (b := 175) d_Mo_challenge_92 cs_Mo_challenge_92 (k_175 S) (c_Mo_put3 S (RS.rf F1) (by omega) (by rw [e1]; exact spStart_lt (by decide) (by decide)) ⟨k_265 S, by decide, by decide⟩ (by rw [n_265 S]; decide)) rfl rfl rfl (fun u_92 q_92 => ?_)
      obtain ⟨I2, L2⟩ := u_92
      obtain ⟨F2, e2, k2⟩ := q_92
      dsimp only at F2 e2 k2
      show AW l G M_Mo_challenge P 95 [(4, vi i), (3, vi 6), (2, vr 267), (1, vi 38), (0, vr 175)] [] (sD h I2 L2)
      refine aw_aload_n d_Mo_challenge_95 rfl rfl ?_
      refine aw_aload_n d_Mo_challenge_96 rfl rfl ?_
      refine ax_getR (b := 262) d_Mo_challenge_97 fd_Mo_84 (k_175 S) (r_175_30 S) ?_
      refine aw_iconst d_Mo_challenge_100 ⟨by decide, by decide⟩ ?_
      refine aw_bipush d_Mo_challenge_101 ⟨by decide, by decide⟩ (by decide) ?_
      refine aw_iload_n d_Mo_challenge_103 rfl rfl ?_
      refine ax_imul d_Mo_challenge_104 ⟨(by omega), (by omega)⟩ ?_
      refine ax_ti (x := 192) (by decide) ?_
      refine aw_aload_n d_Mo_challenge_105 rfl rfl ?_
      refine ax_getIe (x := 4) d_Mo_challenge_106 fd_Mo_223 (k_175 S) (Eq.trans ((F1.tr F2).1 175 26 (Or.inr (by decide))) (Eq.trans (F.1 175 26 (by omega) (Or.inr (by decide))) (dr0_26 D))) ?_
      refine ax_imul d_Mo_challenge_109 ⟨(by omega), (by omega)⟩ ?_
      refine ax_ti (x := 768) (by decide) ?_
      refine ax_Vr (st := []) (as := [vr 262, vi 0, vi 768]) (b := 175) d_Mo_challenge_110 cs_Mo_challenge_110 (k_175 S) (c_Mo_put3 S ((RS.rf F1).rf F2) (by omega) (by rw [e2, e1]; exact spPart_lt (spStart_lt (by decide) (by decide)) _ _) ⟨k_262 S, by decide, by decide⟩ (by rw [n_262 S]; decide)) rfl rfl rfl (fun u_110 q_110 => ?_)
      obtain ⟨I3, L3⟩ := u_110
      obtain ⟨F3, e3, k3⟩ := q_110
      dsimp only at F3 e3 k3
      show AW l G M_Mo_challenge P 113 [(4, vi i), (3, vi 6), (2, vr 267), (1, vi 38), (0, vr 175)] [] (sD h I3 L3)
      have eS : spTurn (spR I3 L3) = hhS mu (fun x => gB (X (x / 192)) 6 (x % 192)) 768 := by rw [e3, e2, e1]; unfold hhS; rw [spPart_congr (f := fun k => I1 265 (0 + k)) (g := mu) (fun k hk => by rw [F1.1 265 _ (Or.inl (by decide)), F.1 265 _ (by decide) (Or.inl (by decide)), hm k (by omega) (by omega), hmm k (by omega) (by omega)]), spPart_congr (f := fun k => I2 262 (0 + k)) (g := (fun x => gB (X (x / 192)) 6 (x % 192))) (fun k hk => by rw [(F1.tr F2).1 262 _ (Or.inl (by decide)), HK k (by omega) (by omega), gB_m])]; rfl
      refine aw_aload_n d_Mo_challenge_113 rfl rfl ?_
      refine aw_aload_n d_Mo_challenge_114 rfl rfl ?_
      refine aw_iconst d_Mo_challenge_115 ⟨by decide, by decide⟩ ?_
      refine aw_aload_n d_Mo_challenge_116 rfl rfl ?_
      refine ax_getIe (x := 32) d_Mo_challenge_117 fd_Mo_248 (k_175 S) (Eq.trans (((F1.tr F2).tr F3).1 175 38 (Or.inr (by decide))) (Eq.trans (F.1 175 38 (by omega) (Or.inr (by decide))) (dr0_38 D))) ?_
      refine ax_Vr (st := []) (as := [vr 267, vi 0, vi 32]) (b := 175) d_Mo_challenge_120 cs_Mo_challenge_120 (k_175 S) (c_Mo_give S (((RS.rf F1).rf F2).rf F3) (by omega) (by rw [e3, e2, e1]; exact (spPart_lt (spPart_lt (spStart_lt (by decide) (by decide)) _ _) _ _).1) ⟨k_267 S, by decide, by decide, by decide⟩ (by rw [n_267 S]; decide)) rfl rfl rfl (fun u_120 q_120 => ?_)
      obtain ⟨I4, L4⟩ := u_120
      obtain ⟨F4, f4, e4, k4⟩ := q_120
      dsimp only at F4 f4 e4 k4
      rw [eS] at F4
      show AW l G M_Mo_challenge P 123 [(4, vi i), (3, vi 6), (2, vr 267), (1, vi 38), (0, vr 175)] [] (sD h I4 L4)
      exact aw_vret d_Mo_challenge_123 rfl (hP I4 L4 ((F.tr (((F1.tr F2).tr F3).fr (p := fun a => a = 262)) (r := fun a => a = 262 ∨ a = 267) (by intro a x; omega)).tr (FR.give (p := fun a => a = 267) F4 f4 rfl) (by intro a x; omega)) (HR.give F4 (by decide)))
    · skip
      refine aw_iconst d_Mo_challenge_33 ⟨by decide, by decide⟩ ?_
      refine aw_istore (lv' := [(5, vi 0), (4, vi i), (3, vi 6), (2, vr 267), (1, vi 38), (0, vr 175)]) d_Mo_challenge_34 (by decide) rfl ?_
      have lp_36 : ∀ (n_ : Nat) (c : Int) (K2 : Nat → Int → Int), (0 ≤ c ∧ c ≤ 256) → (FR (fun a => a = 262) I L K2 L) → (∀ a j, (a ≠ 262 ∨ j < 0 + 192 * i) → (a ≠ 175 ∨ j ≠ 23) → K2 a j = K a j) → (K2 175 23 = 8 * (192 * i) + 6 * c) → (bIn (K2 262) (0 + 192 * i) (bV (X i) 6 c.toNat) (6 * c.toNat)) → ((256 - c).toNat) = n_ → AW l G M_Mo_challenge P 36 [(5, vi c), (4, vi i), (3, vi 6), (2, vr 267), (1, vi 38), (0, vr 175)] [] (sD h K2 L) := by
        intro n_
        induction n_ using Nat.strongRecOn with
        | _ n_ ih_36 =>
        intro c K2 hc Gx f1 b2 g1 hm_36
        refine aw_iload d_Mo_challenge_36 rfl ?_
        refine aw_sipush d_Mo_challenge_38 ⟨by decide, by decide⟩ (by decide) ?_
        refine aw_icmp_ge (tgt := 72) d_Mo_challenge_41 (by decide) (fun c_41 => ?_) (fun c_41 => ?_)
        · skip
          refine ax_iinc (lv' := [(4, vi (i + 1)), (5, vi c), (3, vi 6), (2, vr 267), (1, vi 38), (0, vr 175)]) d_Mo_challenge_72 rfl (by decide) ⟨(by omega), (by omega)⟩ rfl ?_
          refine aw_goto (tgt := 24) d_Mo_challenge_75 (by decide) ?_
          refine aw_sub (lv' := [(4, vi (i + 1)), (3, vi 6), (2, vr 267), (1, vi 38), (0, vr 175)]) (by simp) ?_
          exact ih_24 _ (by omega) (i + 1) K2 (by omega) (Gx) (by omega) (fun z x y => by by_cases v : z < 192 * i; exact (by rw [f1 262 _ (Or.inr (by omega)) (Or.inl (by decide))]; exact HK z x v); exact (by have y2 := gB_of (by have w_ := g1; rw [show c.toNat = 256 by omega] at w_; exact w_) (z - 192 * i) (by omega) (by omega); rw [show (0 + 192 * i + (z - 192 * i) : Int) = 0 + z by omega] at y2; rw [y2]; show _ = gB (X (z / 192)) 6 (z % 192); rw [show z / 192 = i by omega, show z % 192 = z - 192 * i by omega])) rfl
        · skip
          refine aw_aload_n d_Mo_challenge_44 rfl rfl ?_
          refine aw_aload_n d_Mo_challenge_45 rfl rfl ?_
          refine ax_getR (b := 262) d_Mo_challenge_46 fd_Mo_84 (k_175 S) (r_175_30 S) ?_
          refine aw_iconst d_Mo_challenge_49 ⟨by decide, by decide⟩ ?_
          refine aw_aload_n d_Mo_challenge_50 rfl rfl ?_
          refine ax_getR (b := 204) d_Mo_challenge_51 fd_Mo_76 (k_175 S) (r_175_28 S) ?_
          refine aw_iload_n d_Mo_challenge_54 rfl rfl ?_
          refine aw_iload d_Mo_challenge_55 rfl ?_
          refine ax_iadd d_Mo_challenge_57 ⟨(by omega), (by omega)⟩ ?_
          refine ax_aald (b := 205 + (38 + i).toNat) d_Mo_challenge_58 ⟨by rw [(k_204 S)]; decide, by rw [(k_204 S)]; decide⟩ (by omega) (by rw [n_204 S]; omega) (g_204 S (by omega) (by omega)) ?_
          refine aw_iload d_Mo_challenge_59 rfl ?_
          refine ax_ialde (x := X i c) d_Mo_challenge_61 (kr_204 S (by omega)) (by omega) (by rw [nr_204 S (by omega)]; omega) ((Gx.1 _ _ (by omega) (Or.inl (by omega))).trans (hX i hi.1 (by omega) c hc.1 (by omega))) ?_
          refine aw_iload_n d_Mo_challenge_62 rfl rfl ?_
          refine ax_Vr (st := []) (as := [vr 262, vi 0, vi (X i c), vi 6]) (b := 175) d_Mo_challenge_63 cs_Mo_challenge_63 (k_175 S) (c_Mo_putBits (q := 6 * c.toNat) (V := bV (X i) 6 c.toNat) (c := 192 * i) (d := 6) S ⟨k_262 S, by decide, by decide⟩ (by decide) (bX i hi.1 (by omega) c hc.1 (by omega)) (by omega) g1 (by rw [n_262 S]; omega)) rfl rfl rfl (fun u_63 q_63 => ?_)
          obtain ⟨q1, q2, q3⟩ := q_63
          show AW l G M_Mo_challenge P 66 [(5, vi c), (4, vi i), (3, vi 6), (2, vr 267), (1, vi 38), (0, vr 175)] [] (sD h u_63 L)
          refine ax_iinc (lv' := [(5, vi (c + 1)), (4, vi i), (3, vi 6), (2, vr 267), (1, vi 38), (0, vr 175)]) d_Mo_challenge_66 rfl (by decide) ⟨(by omega), (by omega)⟩ rfl ?_
          refine aw_goto (tgt := 36) d_Mo_challenge_69 (by decide) ?_
          exact ih_36 _ (by omega) (c + 1) u_63 (by omega) (Gx.tr (FR.bits (p := fun a => a = 262) q1 rfl) (fun a x => ⟨x, x⟩)) (fun a j x y => (q1 a j x y).trans (f1 a j x y)) (by omega) (by rw [show (c + 1).toNat = c.toNat + 1 by omega]; show bIn _ _ (bV (X i) 6 c.toNat + X i (c.toNat : Int) * 2 ^ (6 * c.toNat)) _; rw [Int.toNat_of_nonneg hc.1]; exact q3) rfl
      skip
      exact lp_36 _ 0 K (by omega) (F) (fun _ _ _ _ => rfl) (by omega) (⟨⟨Int.le_refl _, by simp [bV]⟩, fun m hm => absurd hm (by simp)⟩) rfl
  skip
  refine aw_sub (lv' := [(4, vi 0), (3, vi 6), (2, vr 267), (1, vi 38), (0, vr 175)]) (by simp) ?_
  exact lp_24 _ 0 (a_up I 175 23 0) (by omega) (FR.b0) (by rw [a_up_at]; rfl) (fun z x y => by omega) rfl
set_option maxHeartbeats 800000 in
set_option maxRecDepth 100000 in
theorem c_Mo_challenge0_30 {l : Launch} {G : a_G} {h : Hp} {I L : Nat → Int → Int} {mu : Int → Int} {X : Int → Int → Int} (S : Shp h) (D : RD I L 0) (hX : ∀ m, 0 ≤ m → m < 4 → eqQ (I (205 + (30 + m).toNat)) (X m)) (bX : ∀ m, 0 ≤ m → m < 4 → ∀ j, 0 ≤ j → j < 256 → 0 ≤ X m j ∧ X m j < 2 ^ 6) (hm : HR I 265 0 64 mu) (hmm : ∀ k, 0 ≤ k → k < 64 → mu k % 256 = mu k) : AW l G M_Mo_challenge (Ret (fun _ : (Nat → Int → Int) × (Nat → Int → Int) => none) (fun u => sD h u.1 u.2) (fun u => FR (fun a => a = 262 ∨ a = 267) I L u.1 u.2 ∧ HR u.1 267 0 32 (spOut (hhS mu (fun x => gB (X (x / 192)) 6 (x % 192)) 768)))) 0 (a_ar 0 [vr 175, vi 30, vr 267]) [] (sD h I L) := by
  suffices key : ∀ P : a_R → Hp → Prop, (∀ I2 L2, FR (fun a => a = 262 ∨ a = 267) I L I2 L2 → HR I2 267 0 32 (spOut (hhS mu (fun x => gB (X (x / 192)) 6 (x % 192)) 768)) → P (.inl none) (sD h I2 L2)) → AW l G M_Mo_challenge P 0 [(0, vr 175), (1, vi 30), (2, vr 267)] [] (sD h I L) from key _ (fun I2 L2 q1 q2 => ⟨(I2, L2), rfl, rfl, q1, q2⟩)
  intro P hP
  refine aw_aload_n d_Mo_challenge_0 rfl rfl ?_
  refine aw_iconst d_Mo_challenge_1 ⟨by decide, by decide⟩ ?_
  refine ax_putI d_Mo_challenge_2 fd_Mo_216 (k_175 S) (by decide) rfl ?_
  refine aw_aload_n d_Mo_challenge_5 rfl rfl ?_
  refine ax_getIe (x := 95232) d_Mo_challenge_6 fd_Mo_242 (k_175 S) (Eq.trans (a_up_ne (Or.inr (by decide))) (dr0_36 D)) ?_
  refine aw_ldc (n := 261888) d_Mo_challenge_9 lc_Mo_241 ⟨by decide, by decide⟩ ?_
  refine aw_icmp_ne (tgt := 18) d_Mo_challenge_11 (by decide) (fun c_11 => ?_) (fun c_11 => False.elim (by omega))
  refine aw_bipush d_Mo_challenge_18 ⟨by decide, by decide⟩ (by decide) ?_
  refine aw_istore_n (lv' := [(3, vi 6), (0, vr 175), (1, vi 30), (2, vr 267)]) d_Mo_challenge_20 rfl (by decide) rfl ?_
  refine aw_iconst d_Mo_challenge_21 ⟨by decide, by decide⟩ ?_
  refine aw_istore (lv' := [(4, vi 0), (3, vi 6), (0, vr 175), (1, vi 30), (2, vr 267)]) d_Mo_challenge_22 (by decide) rfl ?_
  have lp_24 : ∀ (n_ : Nat) (i : Int) (K : Nat → Int → Int), (0 ≤ i ∧ i ≤ 4) → (FR (fun a => a = 262) I L K L) → (K 175 23 = 8 * (192 * i)) → (HR K 262 0 (192 * i) (fun x => gB (X (x / 192)) 6 (x % 192))) → ((4 - i).toNat) = n_ → AW l G M_Mo_challenge P 24 [(4, vi i), (3, vi 6), (2, vr 267), (1, vi 30), (0, vr 175)] [] (sD h K L) := by
    intro n_
    induction n_ using Nat.strongRecOn with
    | _ n_ ih_24 =>
    intro i K hi F b1 HK hm_24
    refine aw_iload d_Mo_challenge_24 rfl ?_
    refine aw_aload_n d_Mo_challenge_26 rfl rfl ?_
    refine ax_getIe (x := 4) d_Mo_challenge_27 fd_Mo_223 (k_175 S) (Eq.trans (F.1 175 26 (by omega) (Or.inr (by decide))) (dr0_26 D)) ?_
    refine aw_icmp_ge (tgt := 78) d_Mo_challenge_30 (by decide) (fun c_30 => ?_) (fun c_30 => ?_)
    · skip
      refine aw_aload_n d_Mo_challenge_78 rfl rfl ?_
      refine aw_bipush d_Mo_challenge_79 ⟨by decide, by decide⟩ (by decide) ?_
      have RS := D.1.fr F (by decide)
      refine ax_Vr (st := []) (as := [vi 12]) (b := 175) d_Mo_challenge_81 cs_Mo_challenge_81 (k_175 S) (c_Mo_begin12 S) rfl rfl rfl (fun u_81 q_81 => ?_)
      obtain ⟨I1, L1⟩ := u_81
      obtain ⟨F1, e1, k1⟩ := q_81
      dsimp only at F1 e1 k1
      show AW l G M_Mo_challenge P 84 [(4, vi i), (3, vi 6), (2, vr 267), (1, vi 30), (0, vr 175)] [] (sD h I1 L1)
      refine aw_aload_n d_Mo_challenge_84 rfl rfl ?_
      refine aw_aload_n d_Mo_challenge_85 rfl rfl ?_
      refine ax_getR (b := 265) d_Mo_challenge_86 fd_Mo_93 (k_175 S) (r_175_41 S) ?_
      refine aw_iconst d_Mo_challenge_89 ⟨by decide, by decide⟩ ?_
      refine aw_bipush d_Mo_challenge_90 ⟨by decide, by decide⟩ (by decide) ?_
      refine ax_Vr (st := []) (as := [vr 265, vi 0, vi 64]) (b := 175) d_Mo_challenge_92 cs_Mo_challenge_92 (k_175 S) (c_Mo_put3 S (RS.rf F1) (by omega) (by rw [e1]; exact spStart_lt (by decide) (by decide)) ⟨k_265 S, by decide, by decide⟩ (by rw [n_265 S]; decide)) rfl rfl rfl (fun u_92 q_92 => ?_)
      obtain ⟨I2, L2⟩ := u_92
      obtain ⟨F2, e2, k2⟩ := q_92
      dsimp only at F2 e2 k2
      show AW l G M_Mo_challenge P 95 [(4, vi i), (3, vi 6), (2, vr 267), (1, vi 30), (0, vr 175)] [] (sD h I2 L2)
      refine aw_aload_n d_Mo_challenge_95 rfl rfl ?_
      refine aw_aload_n d_Mo_challenge_96 rfl rfl ?_
      refine ax_getR (b := 262) d_Mo_challenge_97 fd_Mo_84 (k_175 S) (r_175_30 S) ?_
      refine aw_iconst d_Mo_challenge_100 ⟨by decide, by decide⟩ ?_
      refine aw_bipush d_Mo_challenge_101 ⟨by decide, by decide⟩ (by decide) ?_
      refine aw_iload_n d_Mo_challenge_103 rfl rfl ?_
      refine ax_imul d_Mo_challenge_104 ⟨(by omega), (by omega)⟩ ?_
      refine ax_ti (x := 192) (by decide) ?_
      refine aw_aload_n d_Mo_challenge_105 rfl rfl ?_
      refine ax_getIe (x := 4) d_Mo_challenge_106 fd_Mo_223 (k_175 S) (Eq.trans ((F1.tr F2).1 175 26 (Or.inr (by decide))) (Eq.trans (F.1 175 26 (by omega) (Or.inr (by decide))) (dr0_26 D))) ?_
      refine ax_imul d_Mo_challenge_109 ⟨(by omega), (by omega)⟩ ?_
      refine ax_ti (x := 768) (by decide) ?_
      refine ax_Vr (st := []) (as := [vr 262, vi 0, vi 768]) (b := 175) d_Mo_challenge_110 cs_Mo_challenge_110 (k_175 S) (c_Mo_put3 S ((RS.rf F1).rf F2) (by omega) (by rw [e2, e1]; exact spPart_lt (spStart_lt (by decide) (by decide)) _ _) ⟨k_262 S, by decide, by decide⟩ (by rw [n_262 S]; decide)) rfl rfl rfl (fun u_110 q_110 => ?_)
      obtain ⟨I3, L3⟩ := u_110
      obtain ⟨F3, e3, k3⟩ := q_110
      dsimp only at F3 e3 k3
      show AW l G M_Mo_challenge P 113 [(4, vi i), (3, vi 6), (2, vr 267), (1, vi 30), (0, vr 175)] [] (sD h I3 L3)
      have eS : spTurn (spR I3 L3) = hhS mu (fun x => gB (X (x / 192)) 6 (x % 192)) 768 := by rw [e3, e2, e1]; unfold hhS; rw [spPart_congr (f := fun k => I1 265 (0 + k)) (g := mu) (fun k hk => by rw [F1.1 265 _ (Or.inl (by decide)), F.1 265 _ (by decide) (Or.inl (by decide)), hm k (by omega) (by omega), hmm k (by omega) (by omega)]), spPart_congr (f := fun k => I2 262 (0 + k)) (g := (fun x => gB (X (x / 192)) 6 (x % 192))) (fun k hk => by rw [(F1.tr F2).1 262 _ (Or.inl (by decide)), HK k (by omega) (by omega), gB_m])]; rfl
      refine aw_aload_n d_Mo_challenge_113 rfl rfl ?_
      refine aw_aload_n d_Mo_challenge_114 rfl rfl ?_
      refine aw_iconst d_Mo_challenge_115 ⟨by decide, by decide⟩ ?_
      refine aw_aload_n d_Mo_challenge_116 rfl rfl ?_
      refine ax_getIe (x := 32) d_Mo_challenge_117 fd_Mo_248 (k_175 S) (Eq.trans (((F1.tr F2).tr F3).1 175 38 (Or.inr (by decide))) (Eq.trans (F.1 175 38 (by omega) (Or.inr (by decide))) (dr0_38 D))) ?_
      refine ax_Vr (st := []) (as := [vr 267, vi 0, vi 32]) (b := 175) d_Mo_challenge_120 cs_Mo_challenge_120 (k_175 S) (c_Mo_give S (((RS.rf F1).rf F2).rf F3) (by omega) (by rw [e3, e2, e1]; exact (spPart_lt (spPart_lt (spStart_lt (by decide) (by decide)) _ _) _ _).1) ⟨k_267 S, by decide, by decide, by decide⟩ (by rw [n_267 S]; decide)) rfl rfl rfl (fun u_120 q_120 => ?_)
      obtain ⟨I4, L4⟩ := u_120
      obtain ⟨F4, f4, e4, k4⟩ := q_120
      dsimp only at F4 f4 e4 k4
      rw [eS] at F4
      show AW l G M_Mo_challenge P 123 [(4, vi i), (3, vi 6), (2, vr 267), (1, vi 30), (0, vr 175)] [] (sD h I4 L4)
      exact aw_vret d_Mo_challenge_123 rfl (hP I4 L4 ((F.tr (((F1.tr F2).tr F3).fr (p := fun a => a = 262)) (r := fun a => a = 262 ∨ a = 267) (by intro a x; omega)).tr (FR.give (p := fun a => a = 267) F4 f4 rfl) (by intro a x; omega)) (HR.give F4 (by decide)))
    · skip
      refine aw_iconst d_Mo_challenge_33 ⟨by decide, by decide⟩ ?_
      refine aw_istore (lv' := [(5, vi 0), (4, vi i), (3, vi 6), (2, vr 267), (1, vi 30), (0, vr 175)]) d_Mo_challenge_34 (by decide) rfl ?_
      have lp_36 : ∀ (n_ : Nat) (c : Int) (K2 : Nat → Int → Int), (0 ≤ c ∧ c ≤ 256) → (FR (fun a => a = 262) I L K2 L) → (∀ a j, (a ≠ 262 ∨ j < 0 + 192 * i) → (a ≠ 175 ∨ j ≠ 23) → K2 a j = K a j) → (K2 175 23 = 8 * (192 * i) + 6 * c) → (bIn (K2 262) (0 + 192 * i) (bV (X i) 6 c.toNat) (6 * c.toNat)) → ((256 - c).toNat) = n_ → AW l G M_Mo_challenge P 36 [(5, vi c), (4, vi i), (3, vi 6), (2, vr 267), (1, vi 30), (0, vr 175)] [] (sD h K2 L) := by
        intro n_
        induction n_ using Nat.strongRecOn with
        | _ n_ ih_36 =>
        intro c K2 hc Gx f1 b2 g1 hm_36
        refine aw_iload d_Mo_challenge_36 rfl ?_
        refine aw_sipush d_Mo_challenge_38 ⟨by decide, by decide⟩ (by decide) ?_
        refine aw_icmp_ge (tgt := 72) d_Mo_challenge_41 (by decide) (fun c_41 => ?_) (fun c_41 => ?_)
        · skip
          refine ax_iinc (lv' := [(4, vi (i + 1)), (5, vi c), (3, vi 6), (2, vr 267), (1, vi 30), (0, vr 175)]) d_Mo_challenge_72 rfl (by decide) ⟨(by omega), (by omega)⟩ rfl ?_
          refine aw_goto (tgt := 24) d_Mo_challenge_75 (by decide) ?_
          refine aw_sub (lv' := [(4, vi (i + 1)), (3, vi 6), (2, vr 267), (1, vi 30), (0, vr 175)]) (by simp) ?_
          exact ih_24 _ (by omega) (i + 1) K2 (by omega) (Gx) (by omega) (fun z x y => by by_cases v : z < 192 * i; exact (by rw [f1 262 _ (Or.inr (by omega)) (Or.inl (by decide))]; exact HK z x v); exact (by have y2 := gB_of (by have w_ := g1; rw [show c.toNat = 256 by omega] at w_; exact w_) (z - 192 * i) (by omega) (by omega); rw [show (0 + 192 * i + (z - 192 * i) : Int) = 0 + z by omega] at y2; rw [y2]; show _ = gB (X (z / 192)) 6 (z % 192); rw [show z / 192 = i by omega, show z % 192 = z - 192 * i by omega])) rfl
        · skip
          refine aw_aload_n d_Mo_challenge_44 rfl rfl ?_
          refine aw_aload_n d_Mo_challenge_45 rfl rfl ?_
          refine ax_getR (b := 262) d_Mo_challenge_46 fd_Mo_84 (k_175 S) (r_175_30 S) ?_
          refine aw_iconst d_Mo_challenge_49 ⟨by decide, by decide⟩ ?_
          refine aw_aload_n d_Mo_challenge_50 rfl rfl ?_
          refine ax_getR (b := 204) d_Mo_challenge_51 fd_Mo_76 (k_175 S) (r_175_28 S) ?_
          refine aw_iload_n d_Mo_challenge_54 rfl rfl ?_
          refine aw_iload d_Mo_challenge_55 rfl ?_
          refine ax_iadd d_Mo_challenge_57 ⟨(by omega), (by omega)⟩ ?_
          refine ax_aald (b := 205 + (30 + i).toNat) d_Mo_challenge_58 ⟨by rw [(k_204 S)]; decide, by rw [(k_204 S)]; decide⟩ (by omega) (by rw [n_204 S]; omega) (g_204 S (by omega) (by omega)) ?_
          refine aw_iload d_Mo_challenge_59 rfl ?_
          refine ax_ialde (x := X i c) d_Mo_challenge_61 (kr_204 S (by omega)) (by omega) (by rw [nr_204 S (by omega)]; omega) ((Gx.1 _ _ (by omega) (Or.inl (by omega))).trans (hX i hi.1 (by omega) c hc.1 (by omega))) ?_
          refine aw_iload_n d_Mo_challenge_62 rfl rfl ?_
          refine ax_Vr (st := []) (as := [vr 262, vi 0, vi (X i c), vi 6]) (b := 175) d_Mo_challenge_63 cs_Mo_challenge_63 (k_175 S) (c_Mo_putBits (q := 6 * c.toNat) (V := bV (X i) 6 c.toNat) (c := 192 * i) (d := 6) S ⟨k_262 S, by decide, by decide⟩ (by decide) (bX i hi.1 (by omega) c hc.1 (by omega)) (by omega) g1 (by rw [n_262 S]; omega)) rfl rfl rfl (fun u_63 q_63 => ?_)
          obtain ⟨q1, q2, q3⟩ := q_63
          show AW l G M_Mo_challenge P 66 [(5, vi c), (4, vi i), (3, vi 6), (2, vr 267), (1, vi 30), (0, vr 175)] [] (sD h u_63 L)
          refine ax_iinc (lv' := [(5, vi (c + 1)), (4, vi i), (3, vi 6), (2, vr 267), (1, vi 30), (0, vr 175)]) d_Mo_challenge_66 rfl (by decide) ⟨(by omega), (by omega)⟩ rfl ?_
          refine aw_goto (tgt := 36) d_Mo_challenge_69 (by decide) ?_
          exact ih_36 _ (by omega) (c + 1) u_63 (by omega) (Gx.tr (FR.bits (p := fun a => a = 262) q1 rfl) (fun a x => ⟨x, x⟩)) (fun a j x y => (q1 a j x y).trans (f1 a j x y)) (by omega) (by rw [show (c + 1).toNat = c.toNat + 1 by omega]; show bIn _ _ (bV (X i) 6 c.toNat + X i (c.toNat : Int) * 2 ^ (6 * c.toNat)) _; rw [Int.toNat_of_nonneg hc.1]; exact q3) rfl
      skip
      exact lp_36 _ 0 K (by omega) (F) (fun _ _ _ _ => rfl) (by omega) (⟨⟨Int.le_refl _, by simp [bV]⟩, fun m hm => absurd hm (by simp)⟩) rfl
  skip
  refine aw_sub (lv' := [(4, vi 0), (3, vi 6), (2, vr 267), (1, vi 30), (0, vr 175)]) (by simp) ?_
  exact lp_24 _ 0 (a_up I 175 23 0) (by omega) (FR.b0) (by rw [a_up_at]; rfl) (fun z x y => by omega) rfl
set_option maxHeartbeats 800000 in
set_option maxRecDepth 100000 in
theorem c_Mo_challenge1_38 {l : Launch} {G : a_G} {h : Hp} {I L : Nat → Int → Int} {mu : Int → Int} {X : Int → Int → Int} (S : Shp h) (D : RD I L 1) (hX : ∀ m, 0 ≤ m → m < 6 → eqQ (I (205 + (38 + m).toNat)) (X m)) (bX : ∀ m, 0 ≤ m → m < 6 → ∀ j, 0 ≤ j → j < 256 → 0 ≤ X m j ∧ X m j < 2 ^ 4) (hm : HR I 265 0 64 mu) (hmm : ∀ k, 0 ≤ k → k < 64 → mu k % 256 = mu k) : AW l G M_Mo_challenge (Ret (fun _ : (Nat → Int → Int) × (Nat → Int → Int) => none) (fun u => sD h u.1 u.2) (fun u => FR (fun a => a = 262 ∨ a = 267) I L u.1 u.2 ∧ HR u.1 267 0 48 (spOut (hhS mu (fun x => gB (X (x / 128)) 4 (x % 128)) 768)))) 0 (a_ar 0 [vr 175, vi 38, vr 267]) [] (sD h I L) := by
  suffices key : ∀ P : a_R → Hp → Prop, (∀ I2 L2, FR (fun a => a = 262 ∨ a = 267) I L I2 L2 → HR I2 267 0 48 (spOut (hhS mu (fun x => gB (X (x / 128)) 4 (x % 128)) 768)) → P (.inl none) (sD h I2 L2)) → AW l G M_Mo_challenge P 0 [(0, vr 175), (1, vi 38), (2, vr 267)] [] (sD h I L) from key _ (fun I2 L2 q1 q2 => ⟨(I2, L2), rfl, rfl, q1, q2⟩)
  intro P hP
  refine aw_aload_n d_Mo_challenge_0 rfl rfl ?_
  refine aw_iconst d_Mo_challenge_1 ⟨by decide, by decide⟩ ?_
  refine ax_putI d_Mo_challenge_2 fd_Mo_216 (k_175 S) (by decide) rfl ?_
  refine aw_aload_n d_Mo_challenge_5 rfl rfl ?_
  refine ax_getIe (x := 261888) d_Mo_challenge_6 fd_Mo_242 (k_175 S) (Eq.trans (a_up_ne (Or.inr (by decide))) (dr1_36 D)) ?_
  refine aw_ldc (n := 261888) d_Mo_challenge_9 lc_Mo_241 ⟨by decide, by decide⟩ ?_
  refine aw_icmp_ne (tgt := 18) d_Mo_challenge_11 (by decide) (fun c_11 => False.elim (by omega)) (fun c_11 => ?_)
  refine aw_iconst d_Mo_challenge_14 ⟨by decide, by decide⟩ ?_
  refine aw_goto (tgt := 20) d_Mo_challenge_15 (by decide) ?_
  refine aw_istore_n (lv' := [(3, vi 4), (0, vr 175), (1, vi 38), (2, vr 267)]) d_Mo_challenge_20 rfl (by decide) rfl ?_
  refine aw_iconst d_Mo_challenge_21 ⟨by decide, by decide⟩ ?_
  refine aw_istore (lv' := [(4, vi 0), (3, vi 4), (0, vr 175), (1, vi 38), (2, vr 267)]) d_Mo_challenge_22 (by decide) rfl ?_
  have lp_24 : ∀ (n_ : Nat) (i : Int) (K : Nat → Int → Int), (0 ≤ i ∧ i ≤ 6) → (FR (fun a => a = 262) I L K L) → (K 175 23 = 8 * (128 * i)) → (HR K 262 0 (128 * i) (fun x => gB (X (x / 128)) 4 (x % 128))) → ((6 - i).toNat) = n_ → AW l G M_Mo_challenge P 24 [(4, vi i), (3, vi 4), (2, vr 267), (1, vi 38), (0, vr 175)] [] (sD h K L) := by
    intro n_
    induction n_ using Nat.strongRecOn with
    | _ n_ ih_24 =>
    intro i K hi F b1 HK hm_24
    refine aw_iload d_Mo_challenge_24 rfl ?_
    refine aw_aload_n d_Mo_challenge_26 rfl rfl ?_
    refine ax_getIe (x := 6) d_Mo_challenge_27 fd_Mo_223 (k_175 S) (Eq.trans (F.1 175 26 (by omega) (Or.inr (by decide))) (dr1_26 D)) ?_
    refine aw_icmp_ge (tgt := 78) d_Mo_challenge_30 (by decide) (fun c_30 => ?_) (fun c_30 => ?_)
    · skip
      refine aw_aload_n d_Mo_challenge_78 rfl rfl ?_
      refine aw_bipush d_Mo_challenge_79 ⟨by decide, by decide⟩ (by decide) ?_
      have RS := D.1.fr F (by decide)
      refine ax_Vr (st := []) (as := [vi 12]) (b := 175) d_Mo_challenge_81 cs_Mo_challenge_81 (k_175 S) (c_Mo_begin12 S) rfl rfl rfl (fun u_81 q_81 => ?_)
      obtain ⟨I1, L1⟩ := u_81
      obtain ⟨F1, e1, k1⟩ := q_81
      dsimp only at F1 e1 k1
      show AW l G M_Mo_challenge P 84 [(4, vi i), (3, vi 4), (2, vr 267), (1, vi 38), (0, vr 175)] [] (sD h I1 L1)
      refine aw_aload_n d_Mo_challenge_84 rfl rfl ?_
      refine aw_aload_n d_Mo_challenge_85 rfl rfl ?_
      refine ax_getR (b := 265) d_Mo_challenge_86 fd_Mo_93 (k_175 S) (r_175_41 S) ?_
      refine aw_iconst d_Mo_challenge_89 ⟨by decide, by decide⟩ ?_
      refine aw_bipush d_Mo_challenge_90 ⟨by decide, by decide⟩ (by decide) ?_
      refine ax_Vr (st := []) (as := [vr 265, vi 0, vi 64]) (b := 175) d_Mo_challenge_92 cs_Mo_challenge_92 (k_175 S) (c_Mo_put3 S (RS.rf F1) (by omega) (by rw [e1]; exact spStart_lt (by decide) (by decide)) ⟨k_265 S, by decide, by decide⟩ (by rw [n_265 S]; decide)) rfl rfl rfl (fun u_92 q_92 => ?_)
      obtain ⟨I2, L2⟩ := u_92
      obtain ⟨F2, e2, k2⟩ := q_92
      dsimp only at F2 e2 k2
      show AW l G M_Mo_challenge P 95 [(4, vi i), (3, vi 4), (2, vr 267), (1, vi 38), (0, vr 175)] [] (sD h I2 L2)
      refine aw_aload_n d_Mo_challenge_95 rfl rfl ?_
      refine aw_aload_n d_Mo_challenge_96 rfl rfl ?_
      refine ax_getR (b := 262) d_Mo_challenge_97 fd_Mo_84 (k_175 S) (r_175_30 S) ?_
      refine aw_iconst d_Mo_challenge_100 ⟨by decide, by decide⟩ ?_
      refine aw_bipush d_Mo_challenge_101 ⟨by decide, by decide⟩ (by decide) ?_
      refine aw_iload_n d_Mo_challenge_103 rfl rfl ?_
      refine ax_imul d_Mo_challenge_104 ⟨(by omega), (by omega)⟩ ?_
      refine ax_ti (x := 128) (by decide) ?_
      refine aw_aload_n d_Mo_challenge_105 rfl rfl ?_
      refine ax_getIe (x := 6) d_Mo_challenge_106 fd_Mo_223 (k_175 S) (Eq.trans ((F1.tr F2).1 175 26 (Or.inr (by decide))) (Eq.trans (F.1 175 26 (by omega) (Or.inr (by decide))) (dr1_26 D))) ?_
      refine ax_imul d_Mo_challenge_109 ⟨(by omega), (by omega)⟩ ?_
      refine ax_ti (x := 768) (by decide) ?_
      refine ax_Vr (st := []) (as := [vr 262, vi 0, vi 768]) (b := 175) d_Mo_challenge_110 cs_Mo_challenge_110 (k_175 S) (c_Mo_put3 S ((RS.rf F1).rf F2) (by omega) (by rw [e2, e1]; exact spPart_lt (spStart_lt (by decide) (by decide)) _ _) ⟨k_262 S, by decide, by decide⟩ (by rw [n_262 S]; decide)) rfl rfl rfl (fun u_110 q_110 => ?_)
      obtain ⟨I3, L3⟩ := u_110
      obtain ⟨F3, e3, k3⟩ := q_110
      dsimp only at F3 e3 k3
      show AW l G M_Mo_challenge P 113 [(4, vi i), (3, vi 4), (2, vr 267), (1, vi 38), (0, vr 175)] [] (sD h I3 L3)
      have eS : spTurn (spR I3 L3) = hhS mu (fun x => gB (X (x / 128)) 4 (x % 128)) 768 := by rw [e3, e2, e1]; unfold hhS; rw [spPart_congr (f := fun k => I1 265 (0 + k)) (g := mu) (fun k hk => by rw [F1.1 265 _ (Or.inl (by decide)), F.1 265 _ (by decide) (Or.inl (by decide)), hm k (by omega) (by omega), hmm k (by omega) (by omega)]), spPart_congr (f := fun k => I2 262 (0 + k)) (g := (fun x => gB (X (x / 128)) 4 (x % 128))) (fun k hk => by rw [(F1.tr F2).1 262 _ (Or.inl (by decide)), HK k (by omega) (by omega), gB_m])]; rfl
      refine aw_aload_n d_Mo_challenge_113 rfl rfl ?_
      refine aw_aload_n d_Mo_challenge_114 rfl rfl ?_
      refine aw_iconst d_Mo_challenge_115 ⟨by decide, by decide⟩ ?_
      refine aw_aload_n d_Mo_challenge_116 rfl rfl ?_
      refine ax_getIe (x := 48) d_Mo_challenge_117 fd_Mo_248 (k_175 S) (Eq.trans (((F1.tr F2).tr F3).1 175 38 (Or.inr (by decide))) (Eq.trans (F.1 175 38 (by omega) (Or.inr (by decide))) (dr1_38 D))) ?_
      refine ax_Vr (st := []) (as := [vr 267, vi 0, vi 48]) (b := 175) d_Mo_challenge_120 cs_Mo_challenge_120 (k_175 S) (c_Mo_give S (((RS.rf F1).rf F2).rf F3) (by omega) (by rw [e3, e2, e1]; exact (spPart_lt (spPart_lt (spStart_lt (by decide) (by decide)) _ _) _ _).1) ⟨k_267 S, by decide, by decide, by decide⟩ (by rw [n_267 S]; decide)) rfl rfl rfl (fun u_120 q_120 => ?_)
      obtain ⟨I4, L4⟩ := u_120
      obtain ⟨F4, f4, e4, k4⟩ := q_120
      dsimp only at F4 f4 e4 k4
      rw [eS] at F4
      show AW l G M_Mo_challenge P 123 [(4, vi i), (3, vi 4), (2, vr 267), (1, vi 38), (0, vr 175)] [] (sD h I4 L4)
      exact aw_vret d_Mo_challenge_123 rfl (hP I4 L4 ((F.tr (((F1.tr F2).tr F3).fr (p := fun a => a = 262)) (r := fun a => a = 262 ∨ a = 267) (by intro a x; omega)).tr (FR.give (p := fun a => a = 267) F4 f4 rfl) (by intro a x; omega)) (HR.give F4 (by decide)))
    · skip
      refine aw_iconst d_Mo_challenge_33 ⟨by decide, by decide⟩ ?_
      refine aw_istore (lv' := [(5, vi 0), (4, vi i), (3, vi 4), (2, vr 267), (1, vi 38), (0, vr 175)]) d_Mo_challenge_34 (by decide) rfl ?_
      have lp_36 : ∀ (n_ : Nat) (c : Int) (K2 : Nat → Int → Int), (0 ≤ c ∧ c ≤ 256) → (FR (fun a => a = 262) I L K2 L) → (∀ a j, (a ≠ 262 ∨ j < 0 + 128 * i) → (a ≠ 175 ∨ j ≠ 23) → K2 a j = K a j) → (K2 175 23 = 8 * (128 * i) + 4 * c) → (bIn (K2 262) (0 + 128 * i) (bV (X i) 4 c.toNat) (4 * c.toNat)) → ((256 - c).toNat) = n_ → AW l G M_Mo_challenge P 36 [(5, vi c), (4, vi i), (3, vi 4), (2, vr 267), (1, vi 38), (0, vr 175)] [] (sD h K2 L) := by
        intro n_
        induction n_ using Nat.strongRecOn with
        | _ n_ ih_36 =>
        intro c K2 hc Gx f1 b2 g1 hm_36
        refine aw_iload d_Mo_challenge_36 rfl ?_
        refine aw_sipush d_Mo_challenge_38 ⟨by decide, by decide⟩ (by decide) ?_
        refine aw_icmp_ge (tgt := 72) d_Mo_challenge_41 (by decide) (fun c_41 => ?_) (fun c_41 => ?_)
        · skip
          refine ax_iinc (lv' := [(4, vi (i + 1)), (5, vi c), (3, vi 4), (2, vr 267), (1, vi 38), (0, vr 175)]) d_Mo_challenge_72 rfl (by decide) ⟨(by omega), (by omega)⟩ rfl ?_
          refine aw_goto (tgt := 24) d_Mo_challenge_75 (by decide) ?_
          refine aw_sub (lv' := [(4, vi (i + 1)), (3, vi 4), (2, vr 267), (1, vi 38), (0, vr 175)]) (by simp) ?_
          exact ih_24 _ (by omega) (i + 1) K2 (by omega) (Gx) (by omega) (fun z x y => by by_cases v : z < 128 * i; exact (by rw [f1 262 _ (Or.inr (by omega)) (Or.inl (by decide))]; exact HK z x v); exact (by have y2 := gB_of (by have w_ := g1; rw [show c.toNat = 256 by omega] at w_; exact w_) (z - 128 * i) (by omega) (by omega); rw [show (0 + 128 * i + (z - 128 * i) : Int) = 0 + z by omega] at y2; rw [y2]; show _ = gB (X (z / 128)) 4 (z % 128); rw [show z / 128 = i by omega, show z % 128 = z - 128 * i by omega])) rfl
        · skip
          refine aw_aload_n d_Mo_challenge_44 rfl rfl ?_
          refine aw_aload_n d_Mo_challenge_45 rfl rfl ?_
          refine ax_getR (b := 262) d_Mo_challenge_46 fd_Mo_84 (k_175 S) (r_175_30 S) ?_
          refine aw_iconst d_Mo_challenge_49 ⟨by decide, by decide⟩ ?_
          refine aw_aload_n d_Mo_challenge_50 rfl rfl ?_
          refine ax_getR (b := 204) d_Mo_challenge_51 fd_Mo_76 (k_175 S) (r_175_28 S) ?_
          refine aw_iload_n d_Mo_challenge_54 rfl rfl ?_
          refine aw_iload d_Mo_challenge_55 rfl ?_
          refine ax_iadd d_Mo_challenge_57 ⟨(by omega), (by omega)⟩ ?_
          refine ax_aald (b := 205 + (38 + i).toNat) d_Mo_challenge_58 ⟨by rw [(k_204 S)]; decide, by rw [(k_204 S)]; decide⟩ (by omega) (by rw [n_204 S]; omega) (g_204 S (by omega) (by omega)) ?_
          refine aw_iload d_Mo_challenge_59 rfl ?_
          refine ax_ialde (x := X i c) d_Mo_challenge_61 (kr_204 S (by omega)) (by omega) (by rw [nr_204 S (by omega)]; omega) ((Gx.1 _ _ (by omega) (Or.inl (by omega))).trans (hX i hi.1 (by omega) c hc.1 (by omega))) ?_
          refine aw_iload_n d_Mo_challenge_62 rfl rfl ?_
          refine ax_Vr (st := []) (as := [vr 262, vi 0, vi (X i c), vi 4]) (b := 175) d_Mo_challenge_63 cs_Mo_challenge_63 (k_175 S) (c_Mo_putBits (q := 4 * c.toNat) (V := bV (X i) 4 c.toNat) (c := 128 * i) (d := 4) S ⟨k_262 S, by decide, by decide⟩ (by decide) (bX i hi.1 (by omega) c hc.1 (by omega)) (by omega) g1 (by rw [n_262 S]; omega)) rfl rfl rfl (fun u_63 q_63 => ?_)
          obtain ⟨q1, q2, q3⟩ := q_63
          show AW l G M_Mo_challenge P 66 [(5, vi c), (4, vi i), (3, vi 4), (2, vr 267), (1, vi 38), (0, vr 175)] [] (sD h u_63 L)
          refine ax_iinc (lv' := [(5, vi (c + 1)), (4, vi i), (3, vi 4), (2, vr 267), (1, vi 38), (0, vr 175)]) d_Mo_challenge_66 rfl (by decide) ⟨(by omega), (by omega)⟩ rfl ?_
          refine aw_goto (tgt := 36) d_Mo_challenge_69 (by decide) ?_
          exact ih_36 _ (by omega) (c + 1) u_63 (by omega) (Gx.tr (FR.bits (p := fun a => a = 262) q1 rfl) (fun a x => ⟨x, x⟩)) (fun a j x y => (q1 a j x y).trans (f1 a j x y)) (by omega) (by rw [show (c + 1).toNat = c.toNat + 1 by omega]; show bIn _ _ (bV (X i) 4 c.toNat + X i (c.toNat : Int) * 2 ^ (4 * c.toNat)) _; rw [Int.toNat_of_nonneg hc.1]; exact q3) rfl
      skip
      exact lp_36 _ 0 K (by omega) (F) (fun _ _ _ _ => rfl) (by omega) (⟨⟨Int.le_refl _, by simp [bV]⟩, fun m hm => absurd hm (by simp)⟩) rfl
  skip
  refine aw_sub (lv' := [(4, vi 0), (3, vi 4), (2, vr 267), (1, vi 38), (0, vr 175)]) (by simp) ?_
  exact lp_24 _ 0 (a_up I 175 23 0) (by omega) (FR.b0) (by rw [a_up_at]; rfl) (fun z x y => by omega) rfl
set_option maxHeartbeats 800000 in
set_option maxRecDepth 100000 in
theorem c_Mo_challenge1_30 {l : Launch} {G : a_G} {h : Hp} {I L : Nat → Int → Int} {mu : Int → Int} {X : Int → Int → Int} (S : Shp h) (D : RD I L 1) (hX : ∀ m, 0 ≤ m → m < 6 → eqQ (I (205 + (30 + m).toNat)) (X m)) (bX : ∀ m, 0 ≤ m → m < 6 → ∀ j, 0 ≤ j → j < 256 → 0 ≤ X m j ∧ X m j < 2 ^ 4) (hm : HR I 265 0 64 mu) (hmm : ∀ k, 0 ≤ k → k < 64 → mu k % 256 = mu k) : AW l G M_Mo_challenge (Ret (fun _ : (Nat → Int → Int) × (Nat → Int → Int) => none) (fun u => sD h u.1 u.2) (fun u => FR (fun a => a = 262 ∨ a = 267) I L u.1 u.2 ∧ HR u.1 267 0 48 (spOut (hhS mu (fun x => gB (X (x / 128)) 4 (x % 128)) 768)))) 0 (a_ar 0 [vr 175, vi 30, vr 267]) [] (sD h I L) := by
  suffices key : ∀ P : a_R → Hp → Prop, (∀ I2 L2, FR (fun a => a = 262 ∨ a = 267) I L I2 L2 → HR I2 267 0 48 (spOut (hhS mu (fun x => gB (X (x / 128)) 4 (x % 128)) 768)) → P (.inl none) (sD h I2 L2)) → AW l G M_Mo_challenge P 0 [(0, vr 175), (1, vi 30), (2, vr 267)] [] (sD h I L) from key _ (fun I2 L2 q1 q2 => ⟨(I2, L2), rfl, rfl, q1, q2⟩)
  intro P hP
  refine aw_aload_n d_Mo_challenge_0 rfl rfl ?_
  refine aw_iconst d_Mo_challenge_1 ⟨by decide, by decide⟩ ?_
  refine ax_putI d_Mo_challenge_2 fd_Mo_216 (k_175 S) (by decide) rfl ?_
  refine aw_aload_n d_Mo_challenge_5 rfl rfl ?_
  refine ax_getIe (x := 261888) d_Mo_challenge_6 fd_Mo_242 (k_175 S) (Eq.trans (a_up_ne (Or.inr (by decide))) (dr1_36 D)) ?_
  refine aw_ldc (n := 261888) d_Mo_challenge_9 lc_Mo_241 ⟨by decide, by decide⟩ ?_
  refine aw_icmp_ne (tgt := 18) d_Mo_challenge_11 (by decide) (fun c_11 => False.elim (by omega)) (fun c_11 => ?_)
  refine aw_iconst d_Mo_challenge_14 ⟨by decide, by decide⟩ ?_
  refine aw_goto (tgt := 20) d_Mo_challenge_15 (by decide) ?_
  refine aw_istore_n (lv' := [(3, vi 4), (0, vr 175), (1, vi 30), (2, vr 267)]) d_Mo_challenge_20 rfl (by decide) rfl ?_
  refine aw_iconst d_Mo_challenge_21 ⟨by decide, by decide⟩ ?_
  refine aw_istore (lv' := [(4, vi 0), (3, vi 4), (0, vr 175), (1, vi 30), (2, vr 267)]) d_Mo_challenge_22 (by decide) rfl ?_
  have lp_24 : ∀ (n_ : Nat) (i : Int) (K : Nat → Int → Int), (0 ≤ i ∧ i ≤ 6) → (FR (fun a => a = 262) I L K L) → (K 175 23 = 8 * (128 * i)) → (HR K 262 0 (128 * i) (fun x => gB (X (x / 128)) 4 (x % 128))) → ((6 - i).toNat) = n_ → AW l G M_Mo_challenge P 24 [(4, vi i), (3, vi 4), (2, vr 267), (1, vi 30), (0, vr 175)] [] (sD h K L) := by
    intro n_
    induction n_ using Nat.strongRecOn with
    | _ n_ ih_24 =>
    intro i K hi F b1 HK hm_24
    refine aw_iload d_Mo_challenge_24 rfl ?_
    refine aw_aload_n d_Mo_challenge_26 rfl rfl ?_
    refine ax_getIe (x := 6) d_Mo_challenge_27 fd_Mo_223 (k_175 S) (Eq.trans (F.1 175 26 (by omega) (Or.inr (by decide))) (dr1_26 D)) ?_
    refine aw_icmp_ge (tgt := 78) d_Mo_challenge_30 (by decide) (fun c_30 => ?_) (fun c_30 => ?_)
    · skip
      refine aw_aload_n d_Mo_challenge_78 rfl rfl ?_
      refine aw_bipush d_Mo_challenge_79 ⟨by decide, by decide⟩ (by decide) ?_
      have RS := D.1.fr F (by decide)
      refine ax_Vr (st := []) (as := [vi 12]) (b := 175) d_Mo_challenge_81 cs_Mo_challenge_81 (k_175 S) (c_Mo_begin12 S) rfl rfl rfl (fun u_81 q_81 => ?_)
      obtain ⟨I1, L1⟩ := u_81
      obtain ⟨F1, e1, k1⟩ := q_81
      dsimp only at F1 e1 k1
      show AW l G M_Mo_challenge P 84 [(4, vi i), (3, vi 4), (2, vr 267), (1, vi 30), (0, vr 175)] [] (sD h I1 L1)
      refine aw_aload_n d_Mo_challenge_84 rfl rfl ?_
      refine aw_aload_n d_Mo_challenge_85 rfl rfl ?_
      refine ax_getR (b := 265) d_Mo_challenge_86 fd_Mo_93 (k_175 S) (r_175_41 S) ?_
      refine aw_iconst d_Mo_challenge_89 ⟨by decide, by decide⟩ ?_
      refine aw_bipush d_Mo_challenge_90 ⟨by decide, by decide⟩ (by decide) ?_
      refine ax_Vr (st := []) (as := [vr 265, vi 0, vi 64]) (b := 175) d_Mo_challenge_92 cs_Mo_challenge_92 (k_175 S) (c_Mo_put3 S (RS.rf F1) (by omega) (by rw [e1]; exact spStart_lt (by decide) (by decide)) ⟨k_265 S, by decide, by decide⟩ (by rw [n_265 S]; decide)) rfl rfl rfl (fun u_92 q_92 => ?_)
      obtain ⟨I2, L2⟩ := u_92
      obtain ⟨F2, e2, k2⟩ := q_92
      dsimp only at F2 e2 k2
      show AW l G M_Mo_challenge P 95 [(4, vi i), (3, vi 4), (2, vr 267), (1, vi 30), (0, vr 175)] [] (sD h I2 L2)
      refine aw_aload_n d_Mo_challenge_95 rfl rfl ?_
      refine aw_aload_n d_Mo_challenge_96 rfl rfl ?_
      refine ax_getR (b := 262) d_Mo_challenge_97 fd_Mo_84 (k_175 S) (r_175_30 S) ?_
      refine aw_iconst d_Mo_challenge_100 ⟨by decide, by decide⟩ ?_
      refine aw_bipush d_Mo_challenge_101 ⟨by decide, by decide⟩ (by decide) ?_
      refine aw_iload_n d_Mo_challenge_103 rfl rfl ?_
      refine ax_imul d_Mo_challenge_104 ⟨(by omega), (by omega)⟩ ?_
      refine ax_ti (x := 128) (by decide) ?_
      refine aw_aload_n d_Mo_challenge_105 rfl rfl ?_
      refine ax_getIe (x := 6) d_Mo_challenge_106 fd_Mo_223 (k_175 S) (Eq.trans ((F1.tr F2).1 175 26 (Or.inr (by decide))) (Eq.trans (F.1 175 26 (by omega) (Or.inr (by decide))) (dr1_26 D))) ?_
      refine ax_imul d_Mo_challenge_109 ⟨(by omega), (by omega)⟩ ?_
      refine ax_ti (x := 768) (by decide) ?_
      refine ax_Vr (st := []) (as := [vr 262, vi 0, vi 768]) (b := 175) d_Mo_challenge_110 cs_Mo_challenge_110 (k_175 S) (c_Mo_put3 S ((RS.rf F1).rf F2) (by omega) (by rw [e2, e1]; exact spPart_lt (spStart_lt (by decide) (by decide)) _ _) ⟨k_262 S, by decide, by decide⟩ (by rw [n_262 S]; decide)) rfl rfl rfl (fun u_110 q_110 => ?_)
      obtain ⟨I3, L3⟩ := u_110
      obtain ⟨F3, e3, k3⟩ := q_110
      dsimp only at F3 e3 k3
      show AW l G M_Mo_challenge P 113 [(4, vi i), (3, vi 4), (2, vr 267), (1, vi 30), (0, vr 175)] [] (sD h I3 L3)
      have eS : spTurn (spR I3 L3) = hhS mu (fun x => gB (X (x / 128)) 4 (x % 128)) 768 := by rw [e3, e2, e1]; unfold hhS; rw [spPart_congr (f := fun k => I1 265 (0 + k)) (g := mu) (fun k hk => by rw [F1.1 265 _ (Or.inl (by decide)), F.1 265 _ (by decide) (Or.inl (by decide)), hm k (by omega) (by omega), hmm k (by omega) (by omega)]), spPart_congr (f := fun k => I2 262 (0 + k)) (g := (fun x => gB (X (x / 128)) 4 (x % 128))) (fun k hk => by rw [(F1.tr F2).1 262 _ (Or.inl (by decide)), HK k (by omega) (by omega), gB_m])]; rfl
      refine aw_aload_n d_Mo_challenge_113 rfl rfl ?_
      refine aw_aload_n d_Mo_challenge_114 rfl rfl ?_
      refine aw_iconst d_Mo_challenge_115 ⟨by decide, by decide⟩ ?_
      refine aw_aload_n d_Mo_challenge_116 rfl rfl ?_
      refine ax_getIe (x := 48) d_Mo_challenge_117 fd_Mo_248 (k_175 S) (Eq.trans (((F1.tr F2).tr F3).1 175 38 (Or.inr (by decide))) (Eq.trans (F.1 175 38 (by omega) (Or.inr (by decide))) (dr1_38 D))) ?_
      refine ax_Vr (st := []) (as := [vr 267, vi 0, vi 48]) (b := 175) d_Mo_challenge_120 cs_Mo_challenge_120 (k_175 S) (c_Mo_give S (((RS.rf F1).rf F2).rf F3) (by omega) (by rw [e3, e2, e1]; exact (spPart_lt (spPart_lt (spStart_lt (by decide) (by decide)) _ _) _ _).1) ⟨k_267 S, by decide, by decide, by decide⟩ (by rw [n_267 S]; decide)) rfl rfl rfl (fun u_120 q_120 => ?_)
      obtain ⟨I4, L4⟩ := u_120
      obtain ⟨F4, f4, e4, k4⟩ := q_120
      dsimp only at F4 f4 e4 k4
      rw [eS] at F4
      show AW l G M_Mo_challenge P 123 [(4, vi i), (3, vi 4), (2, vr 267), (1, vi 30), (0, vr 175)] [] (sD h I4 L4)
      exact aw_vret d_Mo_challenge_123 rfl (hP I4 L4 ((F.tr (((F1.tr F2).tr F3).fr (p := fun a => a = 262)) (r := fun a => a = 262 ∨ a = 267) (by intro a x; omega)).tr (FR.give (p := fun a => a = 267) F4 f4 rfl) (by intro a x; omega)) (HR.give F4 (by decide)))
    · skip
      refine aw_iconst d_Mo_challenge_33 ⟨by decide, by decide⟩ ?_
      refine aw_istore (lv' := [(5, vi 0), (4, vi i), (3, vi 4), (2, vr 267), (1, vi 30), (0, vr 175)]) d_Mo_challenge_34 (by decide) rfl ?_
      have lp_36 : ∀ (n_ : Nat) (c : Int) (K2 : Nat → Int → Int), (0 ≤ c ∧ c ≤ 256) → (FR (fun a => a = 262) I L K2 L) → (∀ a j, (a ≠ 262 ∨ j < 0 + 128 * i) → (a ≠ 175 ∨ j ≠ 23) → K2 a j = K a j) → (K2 175 23 = 8 * (128 * i) + 4 * c) → (bIn (K2 262) (0 + 128 * i) (bV (X i) 4 c.toNat) (4 * c.toNat)) → ((256 - c).toNat) = n_ → AW l G M_Mo_challenge P 36 [(5, vi c), (4, vi i), (3, vi 4), (2, vr 267), (1, vi 30), (0, vr 175)] [] (sD h K2 L) := by
        intro n_
        induction n_ using Nat.strongRecOn with
        | _ n_ ih_36 =>
        intro c K2 hc Gx f1 b2 g1 hm_36
        refine aw_iload d_Mo_challenge_36 rfl ?_
        refine aw_sipush d_Mo_challenge_38 ⟨by decide, by decide⟩ (by decide) ?_
        refine aw_icmp_ge (tgt := 72) d_Mo_challenge_41 (by decide) (fun c_41 => ?_) (fun c_41 => ?_)
        · skip
          refine ax_iinc (lv' := [(4, vi (i + 1)), (5, vi c), (3, vi 4), (2, vr 267), (1, vi 30), (0, vr 175)]) d_Mo_challenge_72 rfl (by decide) ⟨(by omega), (by omega)⟩ rfl ?_
          refine aw_goto (tgt := 24) d_Mo_challenge_75 (by decide) ?_
          refine aw_sub (lv' := [(4, vi (i + 1)), (3, vi 4), (2, vr 267), (1, vi 30), (0, vr 175)]) (by simp) ?_
          exact ih_24 _ (by omega) (i + 1) K2 (by omega) (Gx) (by omega) (fun z x y => by by_cases v : z < 128 * i; exact (by rw [f1 262 _ (Or.inr (by omega)) (Or.inl (by decide))]; exact HK z x v); exact (by have y2 := gB_of (by have w_ := g1; rw [show c.toNat = 256 by omega] at w_; exact w_) (z - 128 * i) (by omega) (by omega); rw [show (0 + 128 * i + (z - 128 * i) : Int) = 0 + z by omega] at y2; rw [y2]; show _ = gB (X (z / 128)) 4 (z % 128); rw [show z / 128 = i by omega, show z % 128 = z - 128 * i by omega])) rfl
        · skip
          refine aw_aload_n d_Mo_challenge_44 rfl rfl ?_
          refine aw_aload_n d_Mo_challenge_45 rfl rfl ?_
          refine ax_getR (b := 262) d_Mo_challenge_46 fd_Mo_84 (k_175 S) (r_175_30 S) ?_
          refine aw_iconst d_Mo_challenge_49 ⟨by decide, by decide⟩ ?_
          refine aw_aload_n d_Mo_challenge_50 rfl rfl ?_
          refine ax_getR (b := 204) d_Mo_challenge_51 fd_Mo_76 (k_175 S) (r_175_28 S) ?_
          refine aw_iload_n d_Mo_challenge_54 rfl rfl ?_
          refine aw_iload d_Mo_challenge_55 rfl ?_
          refine ax_iadd d_Mo_challenge_57 ⟨(by omega), (by omega)⟩ ?_
          refine ax_aald (b := 205 + (30 + i).toNat) d_Mo_challenge_58 ⟨by rw [(k_204 S)]; decide, by rw [(k_204 S)]; decide⟩ (by omega) (by rw [n_204 S]; omega) (g_204 S (by omega) (by omega)) ?_
          refine aw_iload d_Mo_challenge_59 rfl ?_
          refine ax_ialde (x := X i c) d_Mo_challenge_61 (kr_204 S (by omega)) (by omega) (by rw [nr_204 S (by omega)]; omega) ((Gx.1 _ _ (by omega) (Or.inl (by omega))).trans (hX i hi.1 (by omega) c hc.1 (by omega))) ?_
          refine aw_iload_n d_Mo_challenge_62 rfl rfl ?_
          refine ax_Vr (st := []) (as := [vr 262, vi 0, vi (X i c), vi 4]) (b := 175) d_Mo_challenge_63 cs_Mo_challenge_63 (k_175 S) (c_Mo_putBits (q := 4 * c.toNat) (V := bV (X i) 4 c.toNat) (c := 128 * i) (d := 4) S ⟨k_262 S, by decide, by decide⟩ (by decide) (bX i hi.1 (by omega) c hc.1 (by omega)) (by omega) g1 (by rw [n_262 S]; omega)) rfl rfl rfl (fun u_63 q_63 => ?_)
          obtain ⟨q1, q2, q3⟩ := q_63
          show AW l G M_Mo_challenge P 66 [(5, vi c), (4, vi i), (3, vi 4), (2, vr 267), (1, vi 30), (0, vr 175)] [] (sD h u_63 L)
          refine ax_iinc (lv' := [(5, vi (c + 1)), (4, vi i), (3, vi 4), (2, vr 267), (1, vi 30), (0, vr 175)]) d_Mo_challenge_66 rfl (by decide) ⟨(by omega), (by omega)⟩ rfl ?_
          refine aw_goto (tgt := 36) d_Mo_challenge_69 (by decide) ?_
          exact ih_36 _ (by omega) (c + 1) u_63 (by omega) (Gx.tr (FR.bits (p := fun a => a = 262) q1 rfl) (fun a x => ⟨x, x⟩)) (fun a j x y => (q1 a j x y).trans (f1 a j x y)) (by omega) (by rw [show (c + 1).toNat = c.toNat + 1 by omega]; show bIn _ _ (bV (X i) 4 c.toNat + X i (c.toNat : Int) * 2 ^ (4 * c.toNat)) _; rw [Int.toNat_of_nonneg hc.1]; exact q3) rfl
      skip
      exact lp_36 _ 0 K (by omega) (F) (fun _ _ _ _ => rfl) (by omega) (⟨⟨Int.le_refl _, by simp [bV]⟩, fun m hm => absurd hm (by simp)⟩) rfl
  skip
  refine aw_sub (lv' := [(4, vi 0), (3, vi 4), (2, vr 267), (1, vi 30), (0, vr 175)]) (by simp) ?_
  exact lp_24 _ 0 (a_up I 175 23 0) (by omega) (FR.b0) (by rw [a_up_at]; rfl) (fun z x y => by omega) rfl
set_option maxHeartbeats 800000 in
set_option maxRecDepth 100000 in
theorem c_Mo_challenge2_38 {l : Launch} {G : a_G} {h : Hp} {I L : Nat → Int → Int} {mu : Int → Int} {X : Int → Int → Int} (S : Shp h) (D : RD I L 2) (hX : ∀ m, 0 ≤ m → m < 8 → eqQ (I (205 + (38 + m).toNat)) (X m)) (bX : ∀ m, 0 ≤ m → m < 8 → ∀ j, 0 ≤ j → j < 256 → 0 ≤ X m j ∧ X m j < 2 ^ 4) (hm : HR I 265 0 64 mu) (hmm : ∀ k, 0 ≤ k → k < 64 → mu k % 256 = mu k) : AW l G M_Mo_challenge (Ret (fun _ : (Nat → Int → Int) × (Nat → Int → Int) => none) (fun u => sD h u.1 u.2) (fun u => FR (fun a => a = 262 ∨ a = 267) I L u.1 u.2 ∧ HR u.1 267 0 64 (spOut (hhS mu (fun x => gB (X (x / 128)) 4 (x % 128)) 1024)))) 0 (a_ar 0 [vr 175, vi 38, vr 267]) [] (sD h I L) := by
  suffices key : ∀ P : a_R → Hp → Prop, (∀ I2 L2, FR (fun a => a = 262 ∨ a = 267) I L I2 L2 → HR I2 267 0 64 (spOut (hhS mu (fun x => gB (X (x / 128)) 4 (x % 128)) 1024)) → P (.inl none) (sD h I2 L2)) → AW l G M_Mo_challenge P 0 [(0, vr 175), (1, vi 38), (2, vr 267)] [] (sD h I L) from key _ (fun I2 L2 q1 q2 => ⟨(I2, L2), rfl, rfl, q1, q2⟩)
  intro P hP
  refine aw_aload_n d_Mo_challenge_0 rfl rfl ?_
  refine aw_iconst d_Mo_challenge_1 ⟨by decide, by decide⟩ ?_
  refine ax_putI d_Mo_challenge_2 fd_Mo_216 (k_175 S) (by decide) rfl ?_
  refine aw_aload_n d_Mo_challenge_5 rfl rfl ?_
  refine ax_getIe (x := 261888) d_Mo_challenge_6 fd_Mo_242 (k_175 S) (Eq.trans (a_up_ne (Or.inr (by decide))) (dr2_36 D)) ?_
  refine aw_ldc (n := 261888) d_Mo_challenge_9 lc_Mo_241 ⟨by decide, by decide⟩ ?_
  refine aw_icmp_ne (tgt := 18) d_Mo_challenge_11 (by decide) (fun c_11 => False.elim (by omega)) (fun c_11 => ?_)
  refine aw_iconst d_Mo_challenge_14 ⟨by decide, by decide⟩ ?_
  refine aw_goto (tgt := 20) d_Mo_challenge_15 (by decide) ?_
  refine aw_istore_n (lv' := [(3, vi 4), (0, vr 175), (1, vi 38), (2, vr 267)]) d_Mo_challenge_20 rfl (by decide) rfl ?_
  refine aw_iconst d_Mo_challenge_21 ⟨by decide, by decide⟩ ?_
  refine aw_istore (lv' := [(4, vi 0), (3, vi 4), (0, vr 175), (1, vi 38), (2, vr 267)]) d_Mo_challenge_22 (by decide) rfl ?_
  have lp_24 : ∀ (n_ : Nat) (i : Int) (K : Nat → Int → Int), (0 ≤ i ∧ i ≤ 8) → (FR (fun a => a = 262) I L K L) → (K 175 23 = 8 * (128 * i)) → (HR K 262 0 (128 * i) (fun x => gB (X (x / 128)) 4 (x % 128))) → ((8 - i).toNat) = n_ → AW l G M_Mo_challenge P 24 [(4, vi i), (3, vi 4), (2, vr 267), (1, vi 38), (0, vr 175)] [] (sD h K L) := by
    intro n_
    induction n_ using Nat.strongRecOn with
    | _ n_ ih_24 =>
    intro i K hi F b1 HK hm_24
    refine aw_iload d_Mo_challenge_24 rfl ?_
    refine aw_aload_n d_Mo_challenge_26 rfl rfl ?_
    refine ax_getIe (x := 8) d_Mo_challenge_27 fd_Mo_223 (k_175 S) (Eq.trans (F.1 175 26 (by omega) (Or.inr (by decide))) (dr2_26 D)) ?_
    refine aw_icmp_ge (tgt := 78) d_Mo_challenge_30 (by decide) (fun c_30 => ?_) (fun c_30 => ?_)
    · skip
      refine aw_aload_n d_Mo_challenge_78 rfl rfl ?_
      refine aw_bipush d_Mo_challenge_79 ⟨by decide, by decide⟩ (by decide) ?_
      have RS := D.1.fr F (by decide)
      refine ax_Vr (st := []) (as := [vi 12]) (b := 175) d_Mo_challenge_81 cs_Mo_challenge_81 (k_175 S) (c_Mo_begin12 S) rfl rfl rfl (fun u_81 q_81 => ?_)
      obtain ⟨I1, L1⟩ := u_81
      obtain ⟨F1, e1, k1⟩ := q_81
      dsimp only at F1 e1 k1
      show AW l G M_Mo_challenge P 84 [(4, vi i), (3, vi 4), (2, vr 267), (1, vi 38), (0, vr 175)] [] (sD h I1 L1)
      refine aw_aload_n d_Mo_challenge_84 rfl rfl ?_
      refine aw_aload_n d_Mo_challenge_85 rfl rfl ?_
      refine ax_getR (b := 265) d_Mo_challenge_86 fd_Mo_93 (k_175 S) (r_175_41 S) ?_
      refine aw_iconst d_Mo_challenge_89 ⟨by decide, by decide⟩ ?_
      refine aw_bipush d_Mo_challenge_90 ⟨by decide, by decide⟩ (by decide) ?_
      refine ax_Vr (st := []) (as := [vr 265, vi 0, vi 64]) (b := 175) d_Mo_challenge_92 cs_Mo_challenge_92 (k_175 S) (c_Mo_put3 S (RS.rf F1) (by omega) (by rw [e1]; exact spStart_lt (by decide) (by decide)) ⟨k_265 S, by decide, by decide⟩ (by rw [n_265 S]; decide)) rfl rfl rfl (fun u_92 q_92 => ?_)
      obtain ⟨I2, L2⟩ := u_92
      obtain ⟨F2, e2, k2⟩ := q_92
      dsimp only at F2 e2 k2
      show AW l G M_Mo_challenge P 95 [(4, vi i), (3, vi 4), (2, vr 267), (1, vi 38), (0, vr 175)] [] (sD h I2 L2)
      refine aw_aload_n d_Mo_challenge_95 rfl rfl ?_
      refine aw_aload_n d_Mo_challenge_96 rfl rfl ?_
      refine ax_getR (b := 262) d_Mo_challenge_97 fd_Mo_84 (k_175 S) (r_175_30 S) ?_
      refine aw_iconst d_Mo_challenge_100 ⟨by decide, by decide⟩ ?_
      refine aw_bipush d_Mo_challenge_101 ⟨by decide, by decide⟩ (by decide) ?_
      refine aw_iload_n d_Mo_challenge_103 rfl rfl ?_
      refine ax_imul d_Mo_challenge_104 ⟨(by omega), (by omega)⟩ ?_
      refine ax_ti (x := 128) (by decide) ?_
      refine aw_aload_n d_Mo_challenge_105 rfl rfl ?_
      refine ax_getIe (x := 8) d_Mo_challenge_106 fd_Mo_223 (k_175 S) (Eq.trans ((F1.tr F2).1 175 26 (Or.inr (by decide))) (Eq.trans (F.1 175 26 (by omega) (Or.inr (by decide))) (dr2_26 D))) ?_
      refine ax_imul d_Mo_challenge_109 ⟨(by omega), (by omega)⟩ ?_
      refine ax_ti (x := 1024) (by decide) ?_
      refine ax_Vr (st := []) (as := [vr 262, vi 0, vi 1024]) (b := 175) d_Mo_challenge_110 cs_Mo_challenge_110 (k_175 S) (c_Mo_put3 S ((RS.rf F1).rf F2) (by omega) (by rw [e2, e1]; exact spPart_lt (spStart_lt (by decide) (by decide)) _ _) ⟨k_262 S, by decide, by decide⟩ (by rw [n_262 S]; decide)) rfl rfl rfl (fun u_110 q_110 => ?_)
      obtain ⟨I3, L3⟩ := u_110
      obtain ⟨F3, e3, k3⟩ := q_110
      dsimp only at F3 e3 k3
      show AW l G M_Mo_challenge P 113 [(4, vi i), (3, vi 4), (2, vr 267), (1, vi 38), (0, vr 175)] [] (sD h I3 L3)
      have eS : spTurn (spR I3 L3) = hhS mu (fun x => gB (X (x / 128)) 4 (x % 128)) 1024 := by rw [e3, e2, e1]; unfold hhS; rw [spPart_congr (f := fun k => I1 265 (0 + k)) (g := mu) (fun k hk => by rw [F1.1 265 _ (Or.inl (by decide)), F.1 265 _ (by decide) (Or.inl (by decide)), hm k (by omega) (by omega), hmm k (by omega) (by omega)]), spPart_congr (f := fun k => I2 262 (0 + k)) (g := (fun x => gB (X (x / 128)) 4 (x % 128))) (fun k hk => by rw [(F1.tr F2).1 262 _ (Or.inl (by decide)), HK k (by omega) (by omega), gB_m])]; rfl
      refine aw_aload_n d_Mo_challenge_113 rfl rfl ?_
      refine aw_aload_n d_Mo_challenge_114 rfl rfl ?_
      refine aw_iconst d_Mo_challenge_115 ⟨by decide, by decide⟩ ?_
      refine aw_aload_n d_Mo_challenge_116 rfl rfl ?_
      refine ax_getIe (x := 64) d_Mo_challenge_117 fd_Mo_248 (k_175 S) (Eq.trans (((F1.tr F2).tr F3).1 175 38 (Or.inr (by decide))) (Eq.trans (F.1 175 38 (by omega) (Or.inr (by decide))) (dr2_38 D))) ?_
      refine ax_Vr (st := []) (as := [vr 267, vi 0, vi 64]) (b := 175) d_Mo_challenge_120 cs_Mo_challenge_120 (k_175 S) (c_Mo_give S (((RS.rf F1).rf F2).rf F3) (by omega) (by rw [e3, e2, e1]; exact (spPart_lt (spPart_lt (spStart_lt (by decide) (by decide)) _ _) _ _).1) ⟨k_267 S, by decide, by decide, by decide⟩ (by rw [n_267 S]; decide)) rfl rfl rfl (fun u_120 q_120 => ?_)
      obtain ⟨I4, L4⟩ := u_120
      obtain ⟨F4, f4, e4, k4⟩ := q_120
      dsimp only at F4 f4 e4 k4
      rw [eS] at F4
      show AW l G M_Mo_challenge P 123 [(4, vi i), (3, vi 4), (2, vr 267), (1, vi 38), (0, vr 175)] [] (sD h I4 L4)
      exact aw_vret d_Mo_challenge_123 rfl (hP I4 L4 ((F.tr (((F1.tr F2).tr F3).fr (p := fun a => a = 262)) (r := fun a => a = 262 ∨ a = 267) (by intro a x; omega)).tr (FR.give (p := fun a => a = 267) F4 f4 rfl) (by intro a x; omega)) (HR.give F4 (by decide)))
    · skip
      refine aw_iconst d_Mo_challenge_33 ⟨by decide, by decide⟩ ?_
      refine aw_istore (lv' := [(5, vi 0), (4, vi i), (3, vi 4), (2, vr 267), (1, vi 38), (0, vr 175)]) d_Mo_challenge_34 (by decide) rfl ?_
      have lp_36 : ∀ (n_ : Nat) (c : Int) (K2 : Nat → Int → Int), (0 ≤ c ∧ c ≤ 256) → (FR (fun a => a = 262) I L K2 L) → (∀ a j, (a ≠ 262 ∨ j < 0 + 128 * i) → (a ≠ 175 ∨ j ≠ 23) → K2 a j = K a j) → (K2 175 23 = 8 * (128 * i) + 4 * c) → (bIn (K2 262) (0 + 128 * i) (bV (X i) 4 c.toNat) (4 * c.toNat)) → ((256 - c).toNat) = n_ → AW l G M_Mo_challenge P 36 [(5, vi c), (4, vi i), (3, vi 4), (2, vr 267), (1, vi 38), (0, vr 175)] [] (sD h K2 L) := by
        intro n_
        induction n_ using Nat.strongRecOn with
        | _ n_ ih_36 =>
        intro c K2 hc Gx f1 b2 g1 hm_36
        refine aw_iload d_Mo_challenge_36 rfl ?_
        refine aw_sipush d_Mo_challenge_38 ⟨by decide, by decide⟩ (by decide) ?_
        refine aw_icmp_ge (tgt := 72) d_Mo_challenge_41 (by decide) (fun c_41 => ?_) (fun c_41 => ?_)
        · skip
          refine ax_iinc (lv' := [(4, vi (i + 1)), (5, vi c), (3, vi 4), (2, vr 267), (1, vi 38), (0, vr 175)]) d_Mo_challenge_72 rfl (by decide) ⟨(by omega), (by omega)⟩ rfl ?_
          refine aw_goto (tgt := 24) d_Mo_challenge_75 (by decide) ?_
          refine aw_sub (lv' := [(4, vi (i + 1)), (3, vi 4), (2, vr 267), (1, vi 38), (0, vr 175)]) (by simp) ?_
          exact ih_24 _ (by omega) (i + 1) K2 (by omega) (Gx) (by omega) (fun z x y => by by_cases v : z < 128 * i; exact (by rw [f1 262 _ (Or.inr (by omega)) (Or.inl (by decide))]; exact HK z x v); exact (by have y2 := gB_of (by have w_ := g1; rw [show c.toNat = 256 by omega] at w_; exact w_) (z - 128 * i) (by omega) (by omega); rw [show (0 + 128 * i + (z - 128 * i) : Int) = 0 + z by omega] at y2; rw [y2]; show _ = gB (X (z / 128)) 4 (z % 128); rw [show z / 128 = i by omega, show z % 128 = z - 128 * i by omega])) rfl
        · skip
          refine aw_aload_n d_Mo_challenge_44 rfl rfl ?_
          refine aw_aload_n d_Mo_challenge_45 rfl rfl ?_
          refine ax_getR (b := 262) d_Mo_challenge_46 fd_Mo_84 (k_175 S) (r_175_30 S) ?_
          refine aw_iconst d_Mo_challenge_49 ⟨by decide, by decide⟩ ?_
          refine aw_aload_n d_Mo_challenge_50 rfl rfl ?_
          refine ax_getR (b := 204) d_Mo_challenge_51 fd_Mo_76 (k_175 S) (r_175_28 S) ?_
          refine aw_iload_n d_Mo_challenge_54 rfl rfl ?_
          refine aw_iload d_Mo_challenge_55 rfl ?_
          refine ax_iadd d_Mo_challenge_57 ⟨(by omega), (by omega)⟩ ?_
          refine ax_aald (b := 205 + (38 + i).toNat) d_Mo_challenge_58 ⟨by rw [(k_204 S)]; decide, by rw [(k_204 S)]; decide⟩ (by omega) (by rw [n_204 S]; omega) (g_204 S (by omega) (by omega)) ?_
          refine aw_iload d_Mo_challenge_59 rfl ?_
          refine ax_ialde (x := X i c) d_Mo_challenge_61 (kr_204 S (by omega)) (by omega) (by rw [nr_204 S (by omega)]; omega) ((Gx.1 _ _ (by omega) (Or.inl (by omega))).trans (hX i hi.1 (by omega) c hc.1 (by omega))) ?_
          refine aw_iload_n d_Mo_challenge_62 rfl rfl ?_
          refine ax_Vr (st := []) (as := [vr 262, vi 0, vi (X i c), vi 4]) (b := 175) d_Mo_challenge_63 cs_Mo_challenge_63 (k_175 S) (c_Mo_putBits (q := 4 * c.toNat) (V := bV (X i) 4 c.toNat) (c := 128 * i) (d := 4) S ⟨k_262 S, by decide, by decide⟩ (by decide) (bX i hi.1 (by omega) c hc.1 (by omega)) (by omega) g1 (by rw [n_262 S]; omega)) rfl rfl rfl (fun u_63 q_63 => ?_)
          obtain ⟨q1, q2, q3⟩ := q_63
          show AW l G M_Mo_challenge P 66 [(5, vi c), (4, vi i), (3, vi 4), (2, vr 267), (1, vi 38), (0, vr 175)] [] (sD h u_63 L)
          refine ax_iinc (lv' := [(5, vi (c + 1)), (4, vi i), (3, vi 4), (2, vr 267), (1, vi 38), (0, vr 175)]) d_Mo_challenge_66 rfl (by decide) ⟨(by omega), (by omega)⟩ rfl ?_
          refine aw_goto (tgt := 36) d_Mo_challenge_69 (by decide) ?_
          exact ih_36 _ (by omega) (c + 1) u_63 (by omega) (Gx.tr (FR.bits (p := fun a => a = 262) q1 rfl) (fun a x => ⟨x, x⟩)) (fun a j x y => (q1 a j x y).trans (f1 a j x y)) (by omega) (by rw [show (c + 1).toNat = c.toNat + 1 by omega]; show bIn _ _ (bV (X i) 4 c.toNat + X i (c.toNat : Int) * 2 ^ (4 * c.toNat)) _; rw [Int.toNat_of_nonneg hc.1]; exact q3) rfl
      skip
      exact lp_36 _ 0 K (by omega) (F) (fun _ _ _ _ => rfl) (by omega) (⟨⟨Int.le_refl _, by simp [bV]⟩, fun m hm => absurd hm (by simp)⟩) rfl
  skip
  refine aw_sub (lv' := [(4, vi 0), (3, vi 4), (2, vr 267), (1, vi 38), (0, vr 175)]) (by simp) ?_
  exact lp_24 _ 0 (a_up I 175 23 0) (by omega) (FR.b0) (by rw [a_up_at]; rfl) (fun z x y => by omega) rfl
set_option maxHeartbeats 800000 in
set_option maxRecDepth 100000 in
theorem c_Mo_challenge2_30 {l : Launch} {G : a_G} {h : Hp} {I L : Nat → Int → Int} {mu : Int → Int} {X : Int → Int → Int} (S : Shp h) (D : RD I L 2) (hX : ∀ m, 0 ≤ m → m < 8 → eqQ (I (205 + (30 + m).toNat)) (X m)) (bX : ∀ m, 0 ≤ m → m < 8 → ∀ j, 0 ≤ j → j < 256 → 0 ≤ X m j ∧ X m j < 2 ^ 4) (hm : HR I 265 0 64 mu) (hmm : ∀ k, 0 ≤ k → k < 64 → mu k % 256 = mu k) : AW l G M_Mo_challenge (Ret (fun _ : (Nat → Int → Int) × (Nat → Int → Int) => none) (fun u => sD h u.1 u.2) (fun u => FR (fun a => a = 262 ∨ a = 267) I L u.1 u.2 ∧ HR u.1 267 0 64 (spOut (hhS mu (fun x => gB (X (x / 128)) 4 (x % 128)) 1024)))) 0 (a_ar 0 [vr 175, vi 30, vr 267]) [] (sD h I L) := by
  suffices key : ∀ P : a_R → Hp → Prop, (∀ I2 L2, FR (fun a => a = 262 ∨ a = 267) I L I2 L2 → HR I2 267 0 64 (spOut (hhS mu (fun x => gB (X (x / 128)) 4 (x % 128)) 1024)) → P (.inl none) (sD h I2 L2)) → AW l G M_Mo_challenge P 0 [(0, vr 175), (1, vi 30), (2, vr 267)] [] (sD h I L) from key _ (fun I2 L2 q1 q2 => ⟨(I2, L2), rfl, rfl, q1, q2⟩)
  intro P hP
  refine aw_aload_n d_Mo_challenge_0 rfl rfl ?_
  refine aw_iconst d_Mo_challenge_1 ⟨by decide, by decide⟩ ?_
  refine ax_putI d_Mo_challenge_2 fd_Mo_216 (k_175 S) (by decide) rfl ?_
  refine aw_aload_n d_Mo_challenge_5 rfl rfl ?_
  refine ax_getIe (x := 261888) d_Mo_challenge_6 fd_Mo_242 (k_175 S) (Eq.trans (a_up_ne (Or.inr (by decide))) (dr2_36 D)) ?_
  refine aw_ldc (n := 261888) d_Mo_challenge_9 lc_Mo_241 ⟨by decide, by decide⟩ ?_
  refine aw_icmp_ne (tgt := 18) d_Mo_challenge_11 (by decide) (fun c_11 => False.elim (by omega)) (fun c_11 => ?_)
  refine aw_iconst d_Mo_challenge_14 ⟨by decide, by decide⟩ ?_
  refine aw_goto (tgt := 20) d_Mo_challenge_15 (by decide) ?_
  refine aw_istore_n (lv' := [(3, vi 4), (0, vr 175), (1, vi 30), (2, vr 267)]) d_Mo_challenge_20 rfl (by decide) rfl ?_
  refine aw_iconst d_Mo_challenge_21 ⟨by decide, by decide⟩ ?_
  refine aw_istore (lv' := [(4, vi 0), (3, vi 4), (0, vr 175), (1, vi 30), (2, vr 267)]) d_Mo_challenge_22 (by decide) rfl ?_
  have lp_24 : ∀ (n_ : Nat) (i : Int) (K : Nat → Int → Int), (0 ≤ i ∧ i ≤ 8) → (FR (fun a => a = 262) I L K L) → (K 175 23 = 8 * (128 * i)) → (HR K 262 0 (128 * i) (fun x => gB (X (x / 128)) 4 (x % 128))) → ((8 - i).toNat) = n_ → AW l G M_Mo_challenge P 24 [(4, vi i), (3, vi 4), (2, vr 267), (1, vi 30), (0, vr 175)] [] (sD h K L) := by
    intro n_
    induction n_ using Nat.strongRecOn with
    | _ n_ ih_24 =>
    intro i K hi F b1 HK hm_24
    refine aw_iload d_Mo_challenge_24 rfl ?_
    refine aw_aload_n d_Mo_challenge_26 rfl rfl ?_
    refine ax_getIe (x := 8) d_Mo_challenge_27 fd_Mo_223 (k_175 S) (Eq.trans (F.1 175 26 (by omega) (Or.inr (by decide))) (dr2_26 D)) ?_
    refine aw_icmp_ge (tgt := 78) d_Mo_challenge_30 (by decide) (fun c_30 => ?_) (fun c_30 => ?_)
    · skip
      refine aw_aload_n d_Mo_challenge_78 rfl rfl ?_
      refine aw_bipush d_Mo_challenge_79 ⟨by decide, by decide⟩ (by decide) ?_
      have RS := D.1.fr F (by decide)
      refine ax_Vr (st := []) (as := [vi 12]) (b := 175) d_Mo_challenge_81 cs_Mo_challenge_81 (k_175 S) (c_Mo_begin12 S) rfl rfl rfl (fun u_81 q_81 => ?_)
      obtain ⟨I1, L1⟩ := u_81
      obtain ⟨F1, e1, k1⟩ := q_81
      dsimp only at F1 e1 k1
      show AW l G M_Mo_challenge P 84 [(4, vi i), (3, vi 4), (2, vr 267), (1, vi 30), (0, vr 175)] [] (sD h I1 L1)
      refine aw_aload_n d_Mo_challenge_84 rfl rfl ?_
      refine aw_aload_n d_Mo_challenge_85 rfl rfl ?_
      refine ax_getR (b := 265) d_Mo_challenge_86 fd_Mo_93 (k_175 S) (r_175_41 S) ?_
      refine aw_iconst d_Mo_challenge_89 ⟨by decide, by decide⟩ ?_
      refine aw_bipush d_Mo_challenge_90 ⟨by decide, by decide⟩ (by decide) ?_
      refine ax_Vr (st := []) (as := [vr 265, vi 0, vi 64]) (b := 175) d_Mo_challenge_92 cs_Mo_challenge_92 (k_175 S) (c_Mo_put3 S (RS.rf F1) (by omega) (by rw [e1]; exact spStart_lt (by decide) (by decide)) ⟨k_265 S, by decide, by decide⟩ (by rw [n_265 S]; decide)) rfl rfl rfl (fun u_92 q_92 => ?_)
      obtain ⟨I2, L2⟩ := u_92
      obtain ⟨F2, e2, k2⟩ := q_92
      dsimp only at F2 e2 k2
      show AW l G M_Mo_challenge P 95 [(4, vi i), (3, vi 4), (2, vr 267), (1, vi 30), (0, vr 175)] [] (sD h I2 L2)
      refine aw_aload_n d_Mo_challenge_95 rfl rfl ?_
      refine aw_aload_n d_Mo_challenge_96 rfl rfl ?_
      refine ax_getR (b := 262) d_Mo_challenge_97 fd_Mo_84 (k_175 S) (r_175_30 S) ?_
      refine aw_iconst d_Mo_challenge_100 ⟨by decide, by decide⟩ ?_
      refine aw_bipush d_Mo_challenge_101 ⟨by decide, by decide⟩ (by decide) ?_
      refine aw_iload_n d_Mo_challenge_103 rfl rfl ?_
      refine ax_imul d_Mo_challenge_104 ⟨(by omega), (by omega)⟩ ?_
      refine ax_ti (x := 128) (by decide) ?_
      refine aw_aload_n d_Mo_challenge_105 rfl rfl ?_
      refine ax_getIe (x := 8) d_Mo_challenge_106 fd_Mo_223 (k_175 S) (Eq.trans ((F1.tr F2).1 175 26 (Or.inr (by decide))) (Eq.trans (F.1 175 26 (by omega) (Or.inr (by decide))) (dr2_26 D))) ?_
      refine ax_imul d_Mo_challenge_109 ⟨(by omega), (by omega)⟩ ?_
      refine ax_ti (x := 1024) (by decide) ?_
      refine ax_Vr (st := []) (as := [vr 262, vi 0, vi 1024]) (b := 175) d_Mo_challenge_110 cs_Mo_challenge_110 (k_175 S) (c_Mo_put3 S ((RS.rf F1).rf F2) (by omega) (by rw [e2, e1]; exact spPart_lt (spStart_lt (by decide) (by decide)) _ _) ⟨k_262 S, by decide, by decide⟩ (by rw [n_262 S]; decide)) rfl rfl rfl (fun u_110 q_110 => ?_)
      obtain ⟨I3, L3⟩ := u_110
      obtain ⟨F3, e3, k3⟩ := q_110
      dsimp only at F3 e3 k3
      show AW l G M_Mo_challenge P 113 [(4, vi i), (3, vi 4), (2, vr 267), (1, vi 30), (0, vr 175)] [] (sD h I3 L3)
      have eS : spTurn (spR I3 L3) = hhS mu (fun x => gB (X (x / 128)) 4 (x % 128)) 1024 := by rw [e3, e2, e1]; unfold hhS; rw [spPart_congr (f := fun k => I1 265 (0 + k)) (g := mu) (fun k hk => by rw [F1.1 265 _ (Or.inl (by decide)), F.1 265 _ (by decide) (Or.inl (by decide)), hm k (by omega) (by omega), hmm k (by omega) (by omega)]), spPart_congr (f := fun k => I2 262 (0 + k)) (g := (fun x => gB (X (x / 128)) 4 (x % 128))) (fun k hk => by rw [(F1.tr F2).1 262 _ (Or.inl (by decide)), HK k (by omega) (by omega), gB_m])]; rfl
      refine aw_aload_n d_Mo_challenge_113 rfl rfl ?_
      refine aw_aload_n d_Mo_challenge_114 rfl rfl ?_
      refine aw_iconst d_Mo_challenge_115 ⟨by decide, by decide⟩ ?_
      refine aw_aload_n d_Mo_challenge_116 rfl rfl ?_
      refine ax_getIe (x := 64) d_Mo_challenge_117 fd_Mo_248 (k_175 S) (Eq.trans (((F1.tr F2).tr F3).1 175 38 (Or.inr (by decide))) (Eq.trans (F.1 175 38 (by omega) (Or.inr (by decide))) (dr2_38 D))) ?_
      refine ax_Vr (st := []) (as := [vr 267, vi 0, vi 64]) (b := 175) d_Mo_challenge_120 cs_Mo_challenge_120 (k_175 S) (c_Mo_give S (((RS.rf F1).rf F2).rf F3) (by omega) (by rw [e3, e2, e1]; exact (spPart_lt (spPart_lt (spStart_lt (by decide) (by decide)) _ _) _ _).1) ⟨k_267 S, by decide, by decide, by decide⟩ (by rw [n_267 S]; decide)) rfl rfl rfl (fun u_120 q_120 => ?_)
      obtain ⟨I4, L4⟩ := u_120
      obtain ⟨F4, f4, e4, k4⟩ := q_120
      dsimp only at F4 f4 e4 k4
      rw [eS] at F4
      show AW l G M_Mo_challenge P 123 [(4, vi i), (3, vi 4), (2, vr 267), (1, vi 30), (0, vr 175)] [] (sD h I4 L4)
      exact aw_vret d_Mo_challenge_123 rfl (hP I4 L4 ((F.tr (((F1.tr F2).tr F3).fr (p := fun a => a = 262)) (r := fun a => a = 262 ∨ a = 267) (by intro a x; omega)).tr (FR.give (p := fun a => a = 267) F4 f4 rfl) (by intro a x; omega)) (HR.give F4 (by decide)))
    · skip
      refine aw_iconst d_Mo_challenge_33 ⟨by decide, by decide⟩ ?_
      refine aw_istore (lv' := [(5, vi 0), (4, vi i), (3, vi 4), (2, vr 267), (1, vi 30), (0, vr 175)]) d_Mo_challenge_34 (by decide) rfl ?_
      have lp_36 : ∀ (n_ : Nat) (c : Int) (K2 : Nat → Int → Int), (0 ≤ c ∧ c ≤ 256) → (FR (fun a => a = 262) I L K2 L) → (∀ a j, (a ≠ 262 ∨ j < 0 + 128 * i) → (a ≠ 175 ∨ j ≠ 23) → K2 a j = K a j) → (K2 175 23 = 8 * (128 * i) + 4 * c) → (bIn (K2 262) (0 + 128 * i) (bV (X i) 4 c.toNat) (4 * c.toNat)) → ((256 - c).toNat) = n_ → AW l G M_Mo_challenge P 36 [(5, vi c), (4, vi i), (3, vi 4), (2, vr 267), (1, vi 30), (0, vr 175)] [] (sD h K2 L) := by
        intro n_
        induction n_ using Nat.strongRecOn with
        | _ n_ ih_36 =>
        intro c K2 hc Gx f1 b2 g1 hm_36
        refine aw_iload d_Mo_challenge_36 rfl ?_
        refine aw_sipush d_Mo_challenge_38 ⟨by decide, by decide⟩ (by decide) ?_
        refine aw_icmp_ge (tgt := 72) d_Mo_challenge_41 (by decide) (fun c_41 => ?_) (fun c_41 => ?_)
        · skip
          refine ax_iinc (lv' := [(4, vi (i + 1)), (5, vi c), (3, vi 4), (2, vr 267), (1, vi 30), (0, vr 175)]) d_Mo_challenge_72 rfl (by decide) ⟨(by omega), (by omega)⟩ rfl ?_
          refine aw_goto (tgt := 24) d_Mo_challenge_75 (by decide) ?_
          refine aw_sub (lv' := [(4, vi (i + 1)), (3, vi 4), (2, vr 267), (1, vi 30), (0, vr 175)]) (by simp) ?_
          exact ih_24 _ (by omega) (i + 1) K2 (by omega) (Gx) (by omega) (fun z x y => by by_cases v : z < 128 * i; exact (by rw [f1 262 _ (Or.inr (by omega)) (Or.inl (by decide))]; exact HK z x v); exact (by have y2 := gB_of (by have w_ := g1; rw [show c.toNat = 256 by omega] at w_; exact w_) (z - 128 * i) (by omega) (by omega); rw [show (0 + 128 * i + (z - 128 * i) : Int) = 0 + z by omega] at y2; rw [y2]; show _ = gB (X (z / 128)) 4 (z % 128); rw [show z / 128 = i by omega, show z % 128 = z - 128 * i by omega])) rfl
        · skip
          refine aw_aload_n d_Mo_challenge_44 rfl rfl ?_
          refine aw_aload_n d_Mo_challenge_45 rfl rfl ?_
          refine ax_getR (b := 262) d_Mo_challenge_46 fd_Mo_84 (k_175 S) (r_175_30 S) ?_
          refine aw_iconst d_Mo_challenge_49 ⟨by decide, by decide⟩ ?_
          refine aw_aload_n d_Mo_challenge_50 rfl rfl ?_
          refine ax_getR (b := 204) d_Mo_challenge_51 fd_Mo_76 (k_175 S) (r_175_28 S) ?_
          refine aw_iload_n d_Mo_challenge_54 rfl rfl ?_
          refine aw_iload d_Mo_challenge_55 rfl ?_
          refine ax_iadd d_Mo_challenge_57 ⟨(by omega), (by omega)⟩ ?_
          refine ax_aald (b := 205 + (30 + i).toNat) d_Mo_challenge_58 ⟨by rw [(k_204 S)]; decide, by rw [(k_204 S)]; decide⟩ (by omega) (by rw [n_204 S]; omega) (g_204 S (by omega) (by omega)) ?_
          refine aw_iload d_Mo_challenge_59 rfl ?_
          refine ax_ialde (x := X i c) d_Mo_challenge_61 (kr_204 S (by omega)) (by omega) (by rw [nr_204 S (by omega)]; omega) ((Gx.1 _ _ (by omega) (Or.inl (by omega))).trans (hX i hi.1 (by omega) c hc.1 (by omega))) ?_
          refine aw_iload_n d_Mo_challenge_62 rfl rfl ?_
          refine ax_Vr (st := []) (as := [vr 262, vi 0, vi (X i c), vi 4]) (b := 175) d_Mo_challenge_63 cs_Mo_challenge_63 (k_175 S) (c_Mo_putBits (q := 4 * c.toNat) (V := bV (X i) 4 c.toNat) (c := 128 * i) (d := 4) S ⟨k_262 S, by decide, by decide⟩ (by decide) (bX i hi.1 (by omega) c hc.1 (by omega)) (by omega) g1 (by rw [n_262 S]; omega)) rfl rfl rfl (fun u_63 q_63 => ?_)
          obtain ⟨q1, q2, q3⟩ := q_63
          show AW l G M_Mo_challenge P 66 [(5, vi c), (4, vi i), (3, vi 4), (2, vr 267), (1, vi 30), (0, vr 175)] [] (sD h u_63 L)
          refine ax_iinc (lv' := [(5, vi (c + 1)), (4, vi i), (3, vi 4), (2, vr 267), (1, vi 30), (0, vr 175)]) d_Mo_challenge_66 rfl (by decide) ⟨(by omega), (by omega)⟩ rfl ?_
          refine aw_goto (tgt := 36) d_Mo_challenge_69 (by decide) ?_
          exact ih_36 _ (by omega) (c + 1) u_63 (by omega) (Gx.tr (FR.bits (p := fun a => a = 262) q1 rfl) (fun a x => ⟨x, x⟩)) (fun a j x y => (q1 a j x y).trans (f1 a j x y)) (by omega) (by rw [show (c + 1).toNat = c.toNat + 1 by omega]; show bIn _ _ (bV (X i) 4 c.toNat + X i (c.toNat : Int) * 2 ^ (4 * c.toNat)) _; rw [Int.toNat_of_nonneg hc.1]; exact q3) rfl
      skip
      exact lp_36 _ 0 K (by omega) (F) (fun _ _ _ _ => rfl) (by omega) (⟨⟨Int.le_refl _, by simp [bV]⟩, fun m hm => absurd hm (by simp)⟩) rfl
  skip
  refine aw_sub (lv' := [(4, vi 0), (3, vi 4), (2, vr 267), (1, vi 30), (0, vr 175)]) (by simp) ?_
  exact lp_24 _ 0 (a_up I 175 23 0) (by omega) (FR.b0) (by rw [a_up_at]; rfl) (fun z x y => by omega) rfl
