/-! the reference's dsaKeys -/
def fR0 (q : Nat → Prop) (I L K M : Nat → Int → Int) : Prop := (∀ a j, (a < 175 ∨ 176 ≤ a ∧ a ≤ 194 ∨ 268 ≤ a) → ¬ q a → K a j = I a j) ∧ K 175 3 = I 175 3 ∧ ∀ a j, (a < 195 ∧ a ≠ 175 ∨ 268 ≤ a) → M a j = L a j
theorem fR0.fr {q r p : Nat → Prop} {I L K M K' M' : Nat → Int → Int} (h : fR0 q I L K M) (F : FR p K M K' M') (hp : ∀ a, (a < 175 ∨ 176 ≤ a ∧ a ≤ 194 ∨ 268 ≤ a) → ¬ r a → ¬ q a ∧ ¬ p a) (h5 : ¬ p 175) : fR0 r I L K' M' := ⟨fun a j x y => (F.1 a j (hp a x y).2 (Or.inl (by omega))).trans (h.1 a j x (hp a x y).1), (F.1 175 3 h5 (Or.inr (by decide))).trans h.2.1, fun a j x => (F.2 a j (by omega) (by omega) (by omega) (by omega) (by omega)).trans (h.2.2 a j x)⟩
theorem fR0.rfl' {q : Nat → Prop} {I L : Nat → Int → Int} : fR0 q I L I L := ⟨fun _ _ _ _ => rfl, rfl, fun _ _ _ => rfl⟩
abbrev qN : Nat → Prop := fun _ => False
def RsR (h : Hp) (I L : Nat → Int → Int) (code : Int) (q : Nat → Prop) (Q : Int → (Nat → Int → Int) → (Nat → Int → Int) → Prop) : a_R → Hp → Prop := fun r h2 => ∃ v I' L', r = .inl (some (vi v)) ∧ h2 = sD h I' L' ∧ I' 175 4 = code ∧ ((code = 0 ∧ fR0 q I L I' L' ∧ Q v I' L') ∨ (code ≠ 0 ∧ fR0 qN I L I' L'))
theorem rsNo {h : Hp} {I L I' L' : Nat → Int → Int} {code : Int} {q : Nat → Prop} {Q : Int → (Nat → Int → Int) → (Nat → Int → Int) → Prop} (v c : Int) (hc : code = c) (h0 : c ≠ 0) (h4 : I' 175 4 = c) (F : fR0 qN I L I' L') : RsR h I L code q Q (.inl (some (vi v))) (sD h I' L') := by
  subst hc
  exact ⟨v, I', L', rfl, rfl, h4, Or.inr ⟨h0, F⟩⟩
theorem a_w8r (x : Int) : -128 ≤ a_w8 x ∧ a_w8 x ≤ 127 := by unfold a_w8; omega
def rng (X Y : Int → Int) : Prop := ∀ j, Y j = X j ∨ (-128 ≤ Y j ∧ Y j ≤ 127)
theorem rng.r (X : Int → Int) : rng X X := fun _ => Or.inl rfl
theorem rng.t {X Y Z : Int → Int} (h : rng X Y) (h' : rng Y Z) : rng X Z := fun j => by
  rcases h' j with e | e
  · rcases h j with f | f
    · exact Or.inl (e.trans f)
    · exact Or.inr (by rw [e]; exact f)
  · exact Or.inr e
theorem rng.p {I : Nat → Int → Int} {f : Nat} {o n : Int} {g : Int → Int} : rng (I f) (putRow I f o n g f) := fun j => by
  by_cases c : o ≤ j ∧ j < o + n
  · rw [putRow_in c.1 c.2]
    exact Or.inr (a_w8r _)
  · rw [putRow_out (by omega)]
    exact Or.inl rfl
theorem rng.g {I I' : Nat → Int → Int} {f : Nat} {o n : Int} {g : Int → Int} (h1 : ∀ a j, qR a j → I' a j = putRow I f o n g a j) (hf : f ≠ 175) : rng (I f) (I' f) := fun j => by
  rw [h1 f j (Or.inl hf)]
  exact rng.p j
theorem rng.f {p : Nat → Prop} {I L I' L' : Nat → Int → Int} (F : FR p I L I' L') {f : Nat} (hp : ¬ p f) (hf : f ≠ 175) : rng (I f) (I' f) := fun j => Or.inl (F.1 f j hp (Or.inl hf))
theorem HR.join {I : Nat → Int → Int} {r : Nat} {o n m : Int} {g' : Int → Int} (h : HR I r o n g') (h' : HR I r (o + n) m (fun k => g' (n + k))) : HR I r o (n + m) g' := fun k x y => by
  by_cases c : k < n
  · exact h k x c
  · have z := h' (k - n) (by omega) (by omega)
    rw [show o + n + (k - n) = o + k by omega] at z
    rw [z]
    show g' (n + (k - n)) = g' k
    rw [show n + (k - n) = k by omega]
theorem HR.pre {I : Nat → Int → Int} {f r : Nat} {o n m p : Int} {g g' : Int → Int} (h : HR I r o n g') (hm : o + n ≤ p) : HR (putRow I f p m g) r o n g' := fun k x y => by
  by_cases e : r = f
  · subst e
    rw [putRow_out (by omega)]; exact h k x y
  · rw [putRow_ne e]; exact h k x y
theorem HR.cg {I : Nat → Int → Int} {r : Nat} {o n : Int} {g g' : Int → Int} (h : HR I r o n g) (e : ∀ k, 0 ≤ k → k < n → g k = g' k) : HR I r o n g' := fun k x y => (h k x y).trans (e k x y)
theorem sml_HR {I : Nat → Int → Int} {sd : Int → Int} {e m : Int} (hs : HR I 202 0 128 sd) (sm : ∀ k, sd k % 256 = sd k) : sml e (fun k => I 202 (32 + k)) m = sml e (fun x => sd (32 + x)) m := by
  unfold sml
  rw [nmS_congr (g' := fun x => sd (32 + x)) (fun k hk => by have z := hs (32 + k) (by omega) (by omega); rw [Int.zero_add] at z; rw [z, sm])]
theorem wide_HR {I : Nat → Int → Int} {sd : Int → Int} {j i : Int} (hs : HR I 202 0 128 sd) (sm : ∀ k, sd k % 256 = sd k) : wide (fun k => I 202 (0 + k)) j i = wide sd j i := wide_congr (fun k hk => by rw [hs k (by omega) (by omega), sm])
theorem kgSd_m (s : Int) (g : Int → Int) (k : Int) : kgSd s g k % 256 = kgSd s g k := spOut_m _ _
def kgYs (s : Int) (g : Int → Int) (m : Int) : Int → Int := (sml (pE s) (fun x => kgSd s g (32 + x)) m).2.2
theorem kgYs_b {s : Int} {g : Int → Int} {m j : Int} : -(pE s) ≤ kgYs s g m j ∧ kgYs s g m j ≤ pE s := (sml_b (pE_or s)).2 j
theorem kgY_Ys {s : Int} {g : Int → Int} {m j : Int} : kgY s g m j = kgYs s g m j % 8380417 := rfl
theorem FR.at4 {p : Nat → Prop} {I L K M : Nat → Int → Int} (h : FR p I L K M) (h4 : K 175 4 = I 175 4) : True := trivial
theorem kgPk_m {s : Int} {g : Int → Int} {k : Int} : kgPk s g k % 256 = kgPk s g k := by
  unfold kgPk pkB
  split
  · exact kgSd_m _ _ _
  · exact gB_m _ _ _
set_option maxHeartbeats 2000000 in
set_option maxRecDepth 100000 in
theorem kD0 {l : Launch} {G : a_G} {P : a_R → Hp → Prop} {h : Hp} {I L K M : Nat → Int → Int} (S : Shp h) (n0 : I 186 0 = 32) (R0 : fR0 qN I L K M) (D : RD K M 0) (hs : HR K 202 0 128 (kgSd 0 (fun k => I 178 (0 + k)))) (hb : HR K 262 0 768 (fun x => gB (fun j => 2 - (kgYs 0 (fun k => I 178 (0 + k))) (x / 96) j) 3 (x % 96))) (ho : HR K 263 0 1280 (fun x => gB (fun j => ((kgT 0 (fun k => I 178 (0 + k))) (x / 320) j + 4096 - 1) / 8192) 10 (x % 320))) (hl : ∀ m, 0 ≤ m → m < 4 → eqQ (K (205 + (20 + m).toNat)) (fun j => (kgT 0 (fun k => I 178 (0 + k))) m j - ((kgT 0 (fun k => I 178 (0 + k))) m j + 4096 - 1) / 8192 * 8192)) (h4 : K 175 4 = 0) (okk : kgOk 0 (fun k => I 178 (0 + k))) (hP : ∀ r_ h2_, RsR h I L (cKeys 0 (I 186 0) (fun k => I 178 (0 + k))) (fun a => a = 179 ∨ a = 180 ∨ a = 186) (fun v I' _ => v = sSec 0 ∧ ((∀ j, j ≠ 1 → j ≠ 2 → I' 186 j = I 186 j) ∧ I' 186 1 = 32 + 320 * pK 0 ∧ I' 186 2 = sSec 0) ∧ (HR I' 179 0 (32 + 320 * pK 0) (kgPk 0 (fun k => I 178 (0 + k))) ∧ rng (I 179) (I' 179)) ∧ HR I' 180 0 (sSec 0) (kgSk 0 (fun k => I 178 (0 + k))) ∧ rng (I 180) (I' 180)) r_ h2_ → P r_ h2_) : AW l G M_Mo_dsaKeys P 490 [(4, vi 6144), (0, vr 175)] [] (sD h K M) := by
  refine aw_aload_n d_Mo_dsaKeys_490 rfl rfl ?_
  refine aw_iload d_Mo_dsaKeys_491 rfl ?_
  refine ax_putI d_Mo_dsaKeys_493 fd_Mo_216 (k_175 S) (by decide) rfl ?_
  refine aw_iconst d_Mo_dsaKeys_496 ⟨by decide, by decide⟩ ?_
  refine aw_istore (lv' := [(5, vi 0), (4, vi 6144), (0, vr 175)]) d_Mo_dsaKeys_497 (by decide) rfl ?_
  have lp_499 : ∀ (n_ : Nat) (i : Int) (K2 : Nat → Int → Int), (0 ≤ i ∧ i ≤ 4) → (FR (fun a => a = 262) K M K2 M) → (K2 175 23 = 8 * (768 + 416 * i)) → (HR K2 262 0 768 (fun x => gB (fun j => 2 - (kgYs 0 (fun k => I 178 (0 + k))) (x / 96) j) 3 (x % 96))) → (HR K2 262 768 (416 * i) (fun x => gB (fun j => 4096 - ((kgT 0 (fun k => I 178 (0 + k))) (x / 416) j - ((kgT 0 (fun k => I 178 (0 + k))) (x / 416) j + 4096 - 1) / 8192 * 8192)) 13 (x % 416))) → (K2 175 4 = 0) → ((4 - i).toNat) = n_ → AW l G M_Mo_dsaKeys P 499 [(5, vi i), (0, vr 175)] [] (sD h K2 M) := by
    intro n_
    induction n_ using Nat.strongRecOn with
    | _ n_ ih_499 =>
    intro i K2 hi F b1 h1 h2 c4 hm_499
    refine aw_iload d_Mo_dsaKeys_499 rfl ?_
    refine aw_aload_n d_Mo_dsaKeys_501 rfl rfl ?_
    refine ax_getIe (x := 4) d_Mo_dsaKeys_502 fd_Mo_223 (k_175 S) (Eq.trans (F.1 175 26 (by omega) (Or.inr (by decide))) (dr0_26 D)) ?_
    refine aw_icmp_ge (tgt := 538) d_Mo_dsaKeys_505 (by decide) (fun c_505 => ?_) (fun c_505 => ?_)
    · skip
      refine aw_aload_n d_Mo_dsaKeys_538 rfl rfl ?_
      refine ax_getR (b := 202) d_Mo_dsaKeys_539 fd_Mo_68 (k_175 S) (r_175_25 S) ?_
      refine aw_iconst d_Mo_dsaKeys_542 ⟨by decide, by decide⟩ ?_
      refine aw_aload_n d_Mo_dsaKeys_543 rfl rfl ?_
      refine ax_getR (b := 177) d_Mo_dsaKeys_544 fd_Mo_15 (k_175 S) (r_175_1 S) ?_
      refine aw_iconst d_Mo_dsaKeys_547 ⟨by decide, by decide⟩ ?_
      refine ax_aald (b := 179) d_Mo_dsaKeys_548 ⟨by rw [(k_177 S)]; decide, by rw [(k_177 S)]; decide⟩ (by omega) (by rw [n_177 S]; omega) (g_177 S (j := 1) (by decide) (by decide)) ?_
      refine aw_iconst d_Mo_dsaKeys_549 ⟨by decide, by decide⟩ ?_
      refine aw_bipush d_Mo_dsaKeys_550 ⟨by decide, by decide⟩ (by decide) ?_
      refine ax_S (st := []) (as := [vr 202, vi 0, vr 179, vi 0, vi 32]) (v := none) (h' := sD h (putRow K2 179 0 32 (fun k => K2 202 (0 + k))) M) d_Mo_dsaKeys_552 cs_Mo_dsaKeys_552 (c_Mo_move ⟨k_202 S, by decide⟩ ⟨k_179 S, by decide, trivial⟩ (by decide) (by rw [n_202 S, n_179 S]; omega)) rfl rfl rfl ?_
      show AW l G M_Mo_dsaKeys P 555 [(5, vi i), (0, vr 175)] [] (sD h (putRow K2 179 0 32 (fun k => K2 202 (0 + k))) M)
      refine aw_aload_n d_Mo_dsaKeys_555 rfl rfl ?_
      refine ax_getR (b := 263) d_Mo_dsaKeys_556 fd_Mo_87 (k_175 S) (r_175_31 S) ?_
      refine aw_iconst d_Mo_dsaKeys_559 ⟨by decide, by decide⟩ ?_
      refine aw_aload_n d_Mo_dsaKeys_560 rfl rfl ?_
      refine ax_getR (b := 177) d_Mo_dsaKeys_561 fd_Mo_15 (k_175 S) (r_175_1 S) ?_
      refine aw_iconst d_Mo_dsaKeys_564 ⟨by decide, by decide⟩ ?_
      refine ax_aald (b := 179) d_Mo_dsaKeys_565 ⟨by rw [(k_177 S)]; decide, by rw [(k_177 S)]; decide⟩ (by omega) (by rw [n_177 S]; omega) (g_177 S (j := 1) (by decide) (by decide)) ?_
      refine aw_bipush d_Mo_dsaKeys_566 ⟨by decide, by decide⟩ (by decide) ?_
      refine aw_sipush d_Mo_dsaKeys_568 ⟨by decide, by decide⟩ (by decide) ?_
      refine aw_aload_n d_Mo_dsaKeys_571 rfl rfl ?_
      refine ax_getIe (x := 4) d_Mo_dsaKeys_572 fd_Mo_223 (k_175 S) (Eq.trans (putRow_ne (by decide)) (Eq.trans (F.1 175 26 (by omega) (Or.inr (by decide))) (dr0_26 D))) ?_
      refine ax_imul d_Mo_dsaKeys_575 ⟨(by omega), (by omega)⟩ ?_
      refine ax_ti (x := 1280) (by decide) ?_
      refine ax_S (st := []) (as := [vr 263, vi 0, vr 179, vi 32, vi 1280]) (v := none) (h' := sD h (putRow (putRow K2 179 0 32 (fun k => K2 202 (0 + k))) 179 32 1280 (fun k => (putRow K2 179 0 32 (fun k => K2 202 (0 + k))) 263 (0 + k))) M) d_Mo_dsaKeys_576 cs_Mo_dsaKeys_576 (c_Mo_move ⟨k_263 S, by decide⟩ ⟨k_179 S, by decide, trivial⟩ (by decide) (by rw [n_263 S, n_179 S]; omega)) rfl rfl rfl ?_
      show AW l G M_Mo_dsaKeys P 579 [(5, vi i), (0, vr 175)] [] (sD h (putRow (putRow K2 179 0 32 (fun k => K2 202 (0 + k))) 179 32 1280 (fun k => (putRow K2 179 0 32 (fun k => K2 202 (0 + k))) 263 (0 + k))) M)
      refine aw_aload_n d_Mo_dsaKeys_579 rfl rfl ?_
      refine ax_getR (b := 186) d_Mo_dsaKeys_580 fd_Mo_18 (k_175 S) (r_175_2 S) ?_
      refine aw_iconst d_Mo_dsaKeys_583 ⟨by decide, by decide⟩ ?_
      refine aw_bipush d_Mo_dsaKeys_584 ⟨by decide, by decide⟩ (by decide) ?_
      refine aw_sipush d_Mo_dsaKeys_586 ⟨by decide, by decide⟩ (by decide) ?_
      refine aw_aload_n d_Mo_dsaKeys_589 rfl rfl ?_
      refine ax_getIe (x := 4) d_Mo_dsaKeys_590 fd_Mo_223 (k_175 S) (Eq.trans (putRow_ne (by decide)) (Eq.trans (putRow_ne (by decide)) (Eq.trans (F.1 175 26 (by omega) (Or.inr (by decide))) (dr0_26 D)))) ?_
      refine ax_imul d_Mo_dsaKeys_593 ⟨(by omega), (by omega)⟩ ?_
      refine ax_ti (x := 1280) (by decide) ?_
      refine ax_iadd d_Mo_dsaKeys_594 ⟨(by omega), (by omega)⟩ ?_
      refine ax_ti (x := 1312) (by decide) ?_
      refine ax_iast d_Mo_dsaKeys_595 (k_186 S) (by decide) (by omega) (by rw [n_186 S]; omega) ?_
      refine aw_aload_n d_Mo_dsaKeys_596 rfl rfl ?_
      refine ax_getR (b := 202) d_Mo_dsaKeys_597 fd_Mo_68 (k_175 S) (r_175_25 S) ?_
      refine aw_iconst d_Mo_dsaKeys_600 ⟨by decide, by decide⟩ ?_
      refine aw_aload_n d_Mo_dsaKeys_601 rfl rfl ?_
      refine ax_getR (b := 177) d_Mo_dsaKeys_602 fd_Mo_15 (k_175 S) (r_175_1 S) ?_
      refine aw_iconst d_Mo_dsaKeys_605 ⟨by decide, by decide⟩ ?_
      refine ax_aald (b := 180) d_Mo_dsaKeys_606 ⟨by rw [(k_177 S)]; decide, by rw [(k_177 S)]; decide⟩ (by omega) (by rw [n_177 S]; omega) (g_177 S (j := 2) (by decide) (by decide)) ?_
      refine aw_iconst d_Mo_dsaKeys_607 ⟨by decide, by decide⟩ ?_
      refine aw_bipush d_Mo_dsaKeys_608 ⟨by decide, by decide⟩ (by decide) ?_
      refine ax_S (st := []) (as := [vr 202, vi 0, vr 180, vi 0, vi 32]) (v := none) (h' := sD h (putRow (a_up (putRow (putRow K2 179 0 32 (fun k => K2 202 (0 + k))) 179 32 1280 (fun k => (putRow K2 179 0 32 (fun k => K2 202 (0 + k))) 263 (0 + k))) 186 1 1312) 180 0 32 (fun k => (a_up (putRow (putRow K2 179 0 32 (fun k => K2 202 (0 + k))) 179 32 1280 (fun k => (putRow K2 179 0 32 (fun k => K2 202 (0 + k))) 263 (0 + k))) 186 1 1312) 202 (0 + k))) M) d_Mo_dsaKeys_610 cs_Mo_dsaKeys_610 (c_Mo_move ⟨k_202 S, by decide⟩ ⟨k_180 S, by decide, trivial⟩ (by decide) (by rw [n_202 S, n_180 S]; omega)) rfl rfl rfl ?_
      show AW l G M_Mo_dsaKeys P 613 [(5, vi i), (0, vr 175)] [] (sD h (putRow (a_up (putRow (putRow K2 179 0 32 (fun k => K2 202 (0 + k))) 179 32 1280 (fun k => (putRow K2 179 0 32 (fun k => K2 202 (0 + k))) 263 (0 + k))) 186 1 1312) 180 0 32 (fun k => (a_up (putRow (putRow K2 179 0 32 (fun k => K2 202 (0 + k))) 179 32 1280 (fun k => (putRow K2 179 0 32 (fun k => K2 202 (0 + k))) 263 (0 + k))) 186 1 1312) 202 (0 + k))) M)
      refine aw_aload_n d_Mo_dsaKeys_613 rfl rfl ?_
      refine ax_getR (b := 202) d_Mo_dsaKeys_614 fd_Mo_68 (k_175 S) (r_175_25 S) ?_
      refine aw_bipush d_Mo_dsaKeys_617 ⟨by decide, by decide⟩ (by decide) ?_
      refine aw_aload_n d_Mo_dsaKeys_619 rfl rfl ?_
      refine ax_getR (b := 177) d_Mo_dsaKeys_620 fd_Mo_15 (k_175 S) (r_175_1 S) ?_
      refine aw_iconst d_Mo_dsaKeys_623 ⟨by decide, by decide⟩ ?_
      refine ax_aald (b := 180) d_Mo_dsaKeys_624 ⟨by rw [(k_177 S)]; decide, by rw [(k_177 S)]; decide⟩ (by omega) (by rw [n_177 S]; omega) (g_177 S (j := 2) (by decide) (by decide)) ?_
      refine aw_bipush d_Mo_dsaKeys_625 ⟨by decide, by decide⟩ (by decide) ?_
      refine aw_bipush d_Mo_dsaKeys_627 ⟨by decide, by decide⟩ (by decide) ?_
      refine ax_S (st := []) (as := [vr 202, vi 96, vr 180, vi 32, vi 32]) (v := none) (h' := sD h (putRow (putRow (a_up (putRow (putRow K2 179 0 32 (fun k => K2 202 (0 + k))) 179 32 1280 (fun k => (putRow K2 179 0 32 (fun k => K2 202 (0 + k))) 263 (0 + k))) 186 1 1312) 180 0 32 (fun k => (a_up (putRow (putRow K2 179 0 32 (fun k => K2 202 (0 + k))) 179 32 1280 (fun k => (putRow K2 179 0 32 (fun k => K2 202 (0 + k))) 263 (0 + k))) 186 1 1312) 202 (0 + k))) 180 32 32 (fun k => (putRow (a_up (putRow (putRow K2 179 0 32 (fun k => K2 202 (0 + k))) 179 32 1280 (fun k => (putRow K2 179 0 32 (fun k => K2 202 (0 + k))) 263 (0 + k))) 186 1 1312) 180 0 32 (fun k => (a_up (putRow (putRow K2 179 0 32 (fun k => K2 202 (0 + k))) 179 32 1280 (fun k => (putRow K2 179 0 32 (fun k => K2 202 (0 + k))) 263 (0 + k))) 186 1 1312) 202 (0 + k))) 202 (96 + k))) M) d_Mo_dsaKeys_629 cs_Mo_dsaKeys_629 (c_Mo_move ⟨k_202 S, by decide⟩ ⟨k_180 S, by decide, trivial⟩ (by decide) (by rw [n_202 S, n_180 S]; omega)) rfl rfl rfl ?_
      show AW l G M_Mo_dsaKeys P 632 [(5, vi i), (0, vr 175)] [] (sD h (putRow (putRow (a_up (putRow (putRow K2 179 0 32 (fun k => K2 202 (0 + k))) 179 32 1280 (fun k => (putRow K2 179 0 32 (fun k => K2 202 (0 + k))) 263 (0 + k))) 186 1 1312) 180 0 32 (fun k => (a_up (putRow (putRow K2 179 0 32 (fun k => K2 202 (0 + k))) 179 32 1280 (fun k => (putRow K2 179 0 32 (fun k => K2 202 (0 + k))) 263 (0 + k))) 186 1 1312) 202 (0 + k))) 180 32 32 (fun k => (putRow (a_up (putRow (putRow K2 179 0 32 (fun k => K2 202 (0 + k))) 179 32 1280 (fun k => (putRow K2 179 0 32 (fun k => K2 202 (0 + k))) 263 (0 + k))) 186 1 1312) 180 0 32 (fun k => (a_up (putRow (putRow K2 179 0 32 (fun k => K2 202 (0 + k))) 179 32 1280 (fun k => (putRow K2 179 0 32 (fun k => K2 202 (0 + k))) 263 (0 + k))) 186 1 1312) 202 (0 + k))) 202 (96 + k))) M)
      have G1 : FR (fun a => a = 262 ∨ a = 179) K M (putRow (putRow K2 179 0 32 (fun k => K2 202 (0 + k))) 179 32 1280 (fun k => (putRow K2 179 0 32 (fun k => K2 202 (0 + k))) 263 (0 + k))) M := (F.tr (FR.put (p := fun a => a = 179) rfl) (r := fun a => a = 262 ∨ a = 179) (by intro a x; omega)).tr (FR.put (p := fun a => a = 179) rfl) (by intro a x; omega)
      have G2 : FR (fun a => a = 262 ∨ a = 179 ∨ a = 180 ∨ a = 186) K M (putRow (putRow (a_up (putRow (putRow K2 179 0 32 (fun k => K2 202 (0 + k))) 179 32 1280 (fun k => (putRow K2 179 0 32 (fun k => K2 202 (0 + k))) 263 (0 + k))) 186 1 1312) 180 0 32 (fun k => (a_up (putRow (putRow K2 179 0 32 (fun k => K2 202 (0 + k))) 179 32 1280 (fun k => (putRow K2 179 0 32 (fun k => K2 202 (0 + k))) 263 (0 + k))) 186 1 1312) 202 (0 + k))) 180 32 32 (fun k => (putRow (a_up (putRow (putRow K2 179 0 32 (fun k => K2 202 (0 + k))) 179 32 1280 (fun k => (putRow K2 179 0 32 (fun k => K2 202 (0 + k))) 263 (0 + k))) 186 1 1312) 180 0 32 (fun k => (a_up (putRow (putRow K2 179 0 32 (fun k => K2 202 (0 + k))) 179 32 1280 (fun k => (putRow K2 179 0 32 (fun k => K2 202 (0 + k))) 263 (0 + k))) 186 1 1312) 202 (0 + k))) 202 (96 + k))) M := ((G1.tr (FR.up (p := fun a => a = 186) rfl) (r := fun a => a = 262 ∨ a = 179 ∨ a = 180 ∨ a = 186) (by intro a x; omega)).tr (FR.put (p := fun a => a = 180) rfl) (r := fun a => a = 262 ∨ a = 179 ∨ a = 180 ∨ a = 186) (by intro a x; omega)).tr (FR.put (p := fun a => a = 180) rfl) (by intro a x; omega)
      have p1 : HR (putRow (putRow K2 179 0 32 (fun k => K2 202 (0 + k))) 179 32 1280 (fun k => (putRow K2 179 0 32 (fun k => K2 202 (0 + k))) 263 (0 + k))) 179 0 (32 + 1280) (kgPk 0 (fun k => I 178 (0 + k))) := by
        refine HR.join (n := 32) (m := 1280) (HR.pre (HR.put (fun z x y => ?_)) (by omega)) (HR.put (fun z x y => ?_))
        · rw [F.1 202 _ (by decide) (Or.inl (by decide)), hs z x (by omega), show kgPk 0 (fun k => I 178 (0 + k)) z = pkB (kgSd 0 (fun k => I 178 (0 + k))) (kgT 0 (fun k => I 178 (0 + k))) z from rfl]; unfold pkB; rw [if_pos y]
        · rw [putRow_ne (by decide), F.1 263 _ (by decide) (Or.inl (by decide)), ho z x (by omega), show kgPk 0 (fun k => I 178 (0 + k)) (32 + z) = pkB (kgSd 0 (fun k => I 178 (0 + k))) (kgT 0 (fun k => I 178 (0 + k))) (32 + z) from rfl]; unfold pkB; rw [if_neg (by omega), show 32 + z - 32 = z by omega]
      have p2 : HR (putRow (putRow (a_up (putRow (putRow K2 179 0 32 (fun k => K2 202 (0 + k))) 179 32 1280 (fun k => (putRow K2 179 0 32 (fun k => K2 202 (0 + k))) 263 (0 + k))) 186 1 1312) 180 0 32 (fun k => (a_up (putRow (putRow K2 179 0 32 (fun k => K2 202 (0 + k))) 179 32 1280 (fun k => (putRow K2 179 0 32 (fun k => K2 202 (0 + k))) 263 (0 + k))) 186 1 1312) 202 (0 + k))) 180 32 32 (fun k => (putRow (a_up (putRow (putRow K2 179 0 32 (fun k => K2 202 (0 + k))) 179 32 1280 (fun k => (putRow K2 179 0 32 (fun k => K2 202 (0 + k))) 263 (0 + k))) 186 1 1312) 180 0 32 (fun k => (a_up (putRow (putRow K2 179 0 32 (fun k => K2 202 (0 + k))) 179 32 1280 (fun k => (putRow K2 179 0 32 (fun k => K2 202 (0 + k))) 263 (0 + k))) 186 1 1312) 202 (0 + k))) 202 (96 + k))) 179 0 (32 + 1280) (kgPk 0 (fun k => I 178 (0 + k))) := fun z x y => by rw [putRow_ne (by decide), putRow_ne (by decide), a_up_ne (Or.inl (by decide))]; exact p1 z x y
      have t2 : ∀ z, 0 ≤ z → z < 128 → (a_up (putRow (putRow K2 179 0 32 (fun k => K2 202 (0 + k))) 179 32 1280 (fun k => (putRow K2 179 0 32 (fun k => K2 202 (0 + k))) 263 (0 + k))) 186 1 1312) 202 (0 + z) % 256 = (kgSd 0 (fun k => I 178 (0 + k))) z := fun z x y => by rw [a_up_ne (Or.inl (by decide)), putRow_ne (by decide), putRow_ne (by decide), F.1 202 _ (by decide) (Or.inl (by decide)), hs z x y]
      have RS := D.1.fr G2 (by decide)
      refine aw_aload_n d_Mo_dsaKeys_632 rfl rfl ?_
      refine aw_bipush d_Mo_dsaKeys_633 ⟨by decide, by decide⟩ (by decide) ?_
      refine ax_Vr (st := []) (as := [vi 12]) (b := 175) d_Mo_dsaKeys_635 cs_Mo_dsaKeys_635 (k_175 S) (c_Mo_begin12 S) rfl rfl rfl (fun u_635 q_635 => ?_)
      obtain ⟨I1, L1⟩ := u_635
      obtain ⟨F1, e1, k1⟩ := q_635
      dsimp only at F1 e1 k1
      show AW l G M_Mo_dsaKeys P 638 [(5, vi i), (0, vr 175)] [] (sD h I1 L1)
      refine aw_aload_n d_Mo_dsaKeys_638 rfl rfl ?_
      refine aw_aload_n d_Mo_dsaKeys_639 rfl rfl ?_
      refine ax_getR (b := 177) d_Mo_dsaKeys_640 fd_Mo_15 (k_175 S) (r_175_1 S) ?_
      refine aw_iconst d_Mo_dsaKeys_643 ⟨by decide, by decide⟩ ?_
      refine ax_aald (b := 179) d_Mo_dsaKeys_644 ⟨by rw [(k_177 S)]; decide, by rw [(k_177 S)]; decide⟩ (by omega) (by rw [n_177 S]; omega) (g_177 S (j := 1) (by decide) (by decide)) ?_
      refine aw_iconst d_Mo_dsaKeys_645 ⟨by decide, by decide⟩ ?_
      refine aw_aload_n d_Mo_dsaKeys_646 rfl rfl ?_
      refine ax_getR (b := 186) d_Mo_dsaKeys_647 fd_Mo_18 (k_175 S) (r_175_2 S) ?_
      refine aw_iconst d_Mo_dsaKeys_650 ⟨by decide, by decide⟩ ?_
      refine ax_ialde (x := 1312) d_Mo_dsaKeys_651 (k_186 S) (by omega) (by rw [n_186 S]; omega) (Eq.trans (F1.1 186 1 (Or.inl (by decide))) ((putRow_ne (by decide)).trans ((putRow_ne (by decide)).trans a_up_at))) ?_
      refine ax_Vr (st := []) (as := [vr 179, vi 0, vi 1312]) (b := 175) d_Mo_dsaKeys_652 cs_Mo_dsaKeys_652 (k_175 S) (c_Mo_put3 S (RS.rf F1) (by omega) (by rw [e1]; exact spStart_lt (by decide) (by decide)) ⟨k_179 S, by decide, by decide⟩ (by rw [n_179 S]; decide)) rfl rfl rfl (fun u_652 q_652 => ?_)
      obtain ⟨I2, L2⟩ := u_652
      obtain ⟨F2, e2, k2⟩ := q_652
      dsimp only at F2 e2 k2
      show AW l G M_Mo_dsaKeys P 655 [(5, vi i), (0, vr 175)] [] (sD h I2 L2)
      have eS : spTurn (spR I2 L2) = blS (kgPk 0 (fun k => I 178 (0 + k))) 1312 := by rw [e2, e1, show Int.toNat 1312 = 1312 from rfl, spPart_congr (f := fun k => I1 179 (0 + k)) (g := kgPk 0 (fun k => I 178 (0 + k))) (fun k hk => by rw [F1.1 179 _ (Or.inl (by decide)), p2 k (by omega) (by omega), kgPk_m])]; rfl
      refine aw_aload_n d_Mo_dsaKeys_655 rfl rfl ?_
      refine aw_aload_n d_Mo_dsaKeys_656 rfl rfl ?_
      refine ax_getR (b := 177) d_Mo_dsaKeys_657 fd_Mo_15 (k_175 S) (r_175_1 S) ?_
      refine aw_iconst d_Mo_dsaKeys_660 ⟨by decide, by decide⟩ ?_
      refine ax_aald (b := 180) d_Mo_dsaKeys_661 ⟨by rw [(k_177 S)]; decide, by rw [(k_177 S)]; decide⟩ (by omega) (by rw [n_177 S]; omega) (g_177 S (j := 2) (by decide) (by decide)) ?_
      refine aw_bipush d_Mo_dsaKeys_662 ⟨by decide, by decide⟩ (by decide) ?_
      refine aw_bipush d_Mo_dsaKeys_664 ⟨by decide, by decide⟩ (by decide) ?_
      refine ax_Vr (st := []) (as := [vr 180, vi 64, vi 64]) (b := 175) d_Mo_dsaKeys_666 cs_Mo_dsaKeys_666 (k_175 S) (c_Mo_give S ((RS.rf F1).rf F2) (by omega) (by rw [e2, e1]; exact (spPart_lt (spStart_lt (by decide) (by decide)) _ _).1) ⟨k_180 S, by decide, by decide, by decide⟩ (by rw [n_180 S]; decide)) rfl rfl rfl (fun u_666 q_666 => ?_)
      obtain ⟨I4, L4⟩ := u_666
      obtain ⟨F4, f4, e4, k4⟩ := q_666
      dsimp only at F4 f4 e4 k4
      rw [eS] at F4
      have G4 : FR (fun a => a = 180) (putRow (putRow (a_up (putRow (putRow K2 179 0 32 (fun k => K2 202 (0 + k))) 179 32 1280 (fun k => (putRow K2 179 0 32 (fun k => K2 202 (0 + k))) 263 (0 + k))) 186 1 1312) 180 0 32 (fun k => (a_up (putRow (putRow K2 179 0 32 (fun k => K2 202 (0 + k))) 179 32 1280 (fun k => (putRow K2 179 0 32 (fun k => K2 202 (0 + k))) 263 (0 + k))) 186 1 1312) 202 (0 + k))) 180 32 32 (fun k => (putRow (a_up (putRow (putRow K2 179 0 32 (fun k => K2 202 (0 + k))) 179 32 1280 (fun k => (putRow K2 179 0 32 (fun k => K2 202 (0 + k))) 263 (0 + k))) 186 1 1312) 180 0 32 (fun k => (a_up (putRow (putRow K2 179 0 32 (fun k => K2 202 (0 + k))) 179 32 1280 (fun k => (putRow K2 179 0 32 (fun k => K2 202 (0 + k))) 263 (0 + k))) 186 1 1312) 202 (0 + k))) 202 (96 + k))) M I4 L4 := ((F1.tr F2).fr (p := fun a => a = 180)).tr (FR.give (p := fun a => a = 180) F4 f4 rfl) (fun a x => ⟨x, x⟩)
      have G5 : FR (fun a => a = 262 ∨ a = 179 ∨ a = 180 ∨ a = 186) K M I4 L4 := G2.tr G4 (by intro a x; omega)
      have D4 := D.fr G5 (by decide)
      show AW l G M_Mo_dsaKeys P 669 [(5, vi i), (0, vr 175)] [] (sD h I4 L4)
      refine aw_aload_n d_Mo_dsaKeys_669 rfl rfl ?_
      refine ax_getR (b := 186) d_Mo_dsaKeys_670 fd_Mo_18 (k_175 S) (r_175_2 S) ?_
      refine aw_iconst d_Mo_dsaKeys_673 ⟨by decide, by decide⟩ ?_
      refine aw_aload_n d_Mo_dsaKeys_674 rfl rfl ?_
      refine ax_V (st := [vi 2, vr 186]) (as := []) (b := 175) (v := some (vi 2560)) (h' := sD h I4 L4) d_Mo_dsaKeys_675 cs_Mo_dsaKeys_675 (k_175 S) (c_Mo_secretLength (z := 2560) S (by rw [dr0_33 D4, dr0_32 D4, dr0_26 D4]; decide) (by rw [dr0_32 D4, dr0_26 D4]; decide)) rfl rfl rfl ?_
      show AW l G M_Mo_dsaKeys P 678 [(5, vi i), (0, vr 175)] [vi 2560, vi 2, vr 186] (sD h I4 L4)
      refine ax_iast d_Mo_dsaKeys_678 (k_186 S) (by decide) (by omega) (by rw [n_186 S]; omega) ?_
      refine aw_aload_n d_Mo_dsaKeys_679 rfl rfl ?_
      refine ax_getR (b := 262) d_Mo_dsaKeys_680 fd_Mo_84 (k_175 S) (r_175_30 S) ?_
      refine aw_iconst d_Mo_dsaKeys_683 ⟨by decide, by decide⟩ ?_
      refine aw_aload_n d_Mo_dsaKeys_684 rfl rfl ?_
      refine ax_getR (b := 177) d_Mo_dsaKeys_685 fd_Mo_15 (k_175 S) (r_175_1 S) ?_
      refine aw_iconst d_Mo_dsaKeys_688 ⟨by decide, by decide⟩ ?_
      refine ax_aald (b := 180) d_Mo_dsaKeys_689 ⟨by rw [(k_177 S)]; decide, by rw [(k_177 S)]; decide⟩ (by omega) (by rw [n_177 S]; omega) (g_177 S (j := 2) (by decide) (by decide)) ?_
      refine aw_sipush d_Mo_dsaKeys_690 ⟨by decide, by decide⟩ (by decide) ?_
      refine aw_aload_n d_Mo_dsaKeys_693 rfl rfl ?_
      refine ax_getR (b := 186) d_Mo_dsaKeys_694 fd_Mo_18 (k_175 S) (r_175_2 S) ?_
      refine aw_iconst d_Mo_dsaKeys_697 ⟨by decide, by decide⟩ ?_
      refine ax_ialde (x := 2560) d_Mo_dsaKeys_698 (k_186 S) (by omega) (by rw [n_186 S]; omega) (a_up_at) ?_
      refine aw_sipush d_Mo_dsaKeys_699 ⟨by decide, by decide⟩ (by decide) ?_
      refine ax_isub d_Mo_dsaKeys_702 ⟨(by omega), (by omega)⟩ ?_
      refine ax_ti (x := 2432) (by decide) ?_
      refine ax_S (st := []) (as := [vr 262, vi 0, vr 180, vi 128, vi 2432]) (v := none) (h' := sD h (putRow (a_up I4 186 2 2560) 180 128 (2432) (fun k => (a_up I4 186 2 2560) 262 (0 + k))) L4) d_Mo_dsaKeys_703 cs_Mo_dsaKeys_703 (c_Mo_move ⟨k_262 S, by decide⟩ ⟨k_180 S, by decide, trivial⟩ (by decide) (by rw [n_262 S, n_180 S]; omega)) rfl rfl rfl ?_
      show AW l G M_Mo_dsaKeys P 706 [(5, vi i), (0, vr 175)] [] (sD h (putRow (a_up I4 186 2 2560) 180 128 (2432) (fun k => (a_up I4 186 2 2560) 262 (0 + k))) L4)
      have r4 : HR I4 180 0 128 (kgSk 0 (fun k => I 178 (0 + k))) := by
        have x1 : HR (putRow (putRow (a_up (putRow (putRow K2 179 0 32 (fun k => K2 202 (0 + k))) 179 32 1280 (fun k => (putRow K2 179 0 32 (fun k => K2 202 (0 + k))) 263 (0 + k))) 186 1 1312) 180 0 32 (fun k => (a_up (putRow (putRow K2 179 0 32 (fun k => K2 202 (0 + k))) 179 32 1280 (fun k => (putRow K2 179 0 32 (fun k => K2 202 (0 + k))) 263 (0 + k))) 186 1 1312) 202 (0 + k))) 180 32 32 (fun k => (putRow (a_up (putRow (putRow K2 179 0 32 (fun k => K2 202 (0 + k))) 179 32 1280 (fun k => (putRow K2 179 0 32 (fun k => K2 202 (0 + k))) 263 (0 + k))) 186 1 1312) 180 0 32 (fun k => (a_up (putRow (putRow K2 179 0 32 (fun k => K2 202 (0 + k))) 179 32 1280 (fun k => (putRow K2 179 0 32 (fun k => K2 202 (0 + k))) 263 (0 + k))) 186 1 1312) 202 (0 + k))) 202 (96 + k))) 180 0 (32 + 32) (kgSk 0 (fun k => I 178 (0 + k))) := by
          refine HR.join (HR.pre (HR.put (fun z x y => ?_)) (by omega)) (HR.put (fun z x y => ?_))
          · rw [t2 z x (by omega), show kgSk 0 (fun k => I 178 (0 + k)) z = skB0 (kgSd 0 (fun k => I 178 (0 + k))) (spOut (blS (kgPk 0 (fun k => I 178 (0 + k))) 1312)) (kgY 0 (fun k => I 178 (0 + k))) (kgT 0 (fun k => I 178 (0 + k))) z from rfl]; unfold skB0; rw [if_pos y]
          · have w_ := t2 (96 + z) (by omega) (by omega)
            rw [Int.zero_add] at w_
            rw [putRow_ne (by decide), w_, show kgSk 0 (fun k => I 178 (0 + k)) (32 + z) = skB0 (kgSd 0 (fun k => I 178 (0 + k))) (spOut (blS (kgPk 0 (fun k => I 178 (0 + k))) 1312)) (kgY 0 (fun k => I 178 (0 + k))) (kgT 0 (fun k => I 178 (0 + k))) (32 + z) from rfl]; unfold skB0; rw [if_neg (by omega), if_pos (by omega), show 32 + z - 32 = z by omega]
        have x2 : ∀ z, 0 ≤ z → z < 64 → I4 180 (0 + z) % 256 = kgSk 0 (fun k => I 178 (0 + k)) z := fun z x y => by
          rw [F4 180 _ (Or.inl (by decide)), putRow_out (by omega), (F1.tr F2).1 180 _ (Or.inl (by decide))]
          exact x1 z x (by omega)
        have x3 := HR.give F4 (by decide)
        refine HR.join (n := 64) (m := 64) x2 (fun z x y => ?_)
        rw [show (0 + 64 + z : Int) = 64 + z by omega, x3 z x y]
        show _ = kgSk 0 (fun k => I 178 (0 + k)) (64 + z)
        rw [show kgSk 0 (fun k => I 178 (0 + k)) (64 + z) = skB0 (kgSd 0 (fun k => I 178 (0 + k))) (spOut (blS (kgPk 0 (fun k => I 178 (0 + k))) 1312)) (kgY 0 (fun k => I 178 (0 + k))) (kgT 0 (fun k => I 178 (0 + k))) (64 + z) from rfl]; unfold skB0; rw [if_neg (by omega), if_neg (by omega), if_pos (by omega), show 64 + z - 64 = z by omega]
      have bf : ∀ z, 0 ≤ z → z < 2432 → (a_up I4 186 2 2560) 262 (0 + z) % 256 = kgSk 0 (fun k => I 178 (0 + k)) (128 + z) := fun z x y => by
        rw [a_up_ne (Or.inl (by decide)), G4.1 262 _ (by decide) (Or.inl (by decide)), putRow_ne (by decide), putRow_ne (by decide), a_up_ne (Or.inl (by decide)), putRow_ne (by decide), putRow_ne (by decide)]
        by_cases v : z < 768
        · rw [h1 z x v, show kgSk 0 (fun k => I 178 (0 + k)) (128 + z) = skB0 (kgSd 0 (fun k => I 178 (0 + k))) (spOut (blS (kgPk 0 (fun k => I 178 (0 + k))) 1312)) (kgY 0 (fun k => I 178 (0 + k))) (kgT 0 (fun k => I 178 (0 + k))) (128 + z) from rfl]; unfold skB0; rw [if_neg (by omega), if_neg (by omega), if_neg (by omega), if_pos (by omega), show 128 + z - 128 = z by omega]
          show gB _ 3 _ = gB _ 3 _
          exact congrFun (gB_congr (fun j u w_ => by have q_ := kgYs_b (s := 0) (g := (fun k => I 178 (0 + k))) (m := z / 96) (j := j); rw [show pE 0 = 2 from rfl] at q_; show 2 - (kgYs 0 (fun k => I 178 (0 + k))) (z / 96) j = (2 - (kgY 0 (fun k => I 178 (0 + k))) (z / 96) j) % 8380417; rw [kgY_Ys]; omega)) _
        · have y2 := h2 (z - 768) (by omega) (by omega)
          rw [show (768 + (z - 768) : Int) = 0 + z by omega] at y2
          rw [y2, show kgSk 0 (fun k => I 178 (0 + k)) (128 + z) = skB0 (kgSd 0 (fun k => I 178 (0 + k))) (spOut (blS (kgPk 0 (fun k => I 178 (0 + k))) 1312)) (kgY 0 (fun k => I 178 (0 + k))) (kgT 0 (fun k => I 178 (0 + k))) (128 + z) from rfl]; unfold skB0; rw [if_neg (by omega), if_neg (by omega), if_neg (by omega), if_neg (by omega), show 128 + z - 896 = z - 768 by omega]
      have r5 : HR (putRow (a_up I4 186 2 2560) 180 128 (2432) (fun k => (a_up I4 186 2 2560) 262 (0 + k))) 180 0 2560 (kgSk 0 (fun k => I 178 (0 + k))) := HR.join (n := 128) (m := 2432) (HR.pre (fun z x y => by rw [a_up_ne (Or.inl (by decide))]; exact r4 z x y) (by omega)) (HR.put bf)
      have G6 : FR (fun a => a = 262 ∨ a = 179 ∨ a = 180 ∨ a = 186) K M (putRow (a_up I4 186 2 2560) 180 128 (2432) (fun k => (a_up I4 186 2 2560) 262 (0 + k))) L4 := (G5.tr (FR.up (p := fun a => a = 186) rfl) (r := fun a => a = 262 ∨ a = 179 ∨ a = 180 ∨ a = 186) (by intro a x; omega)).tr (FR.put (p := fun a => a = 180) rfl) (by intro a x; omega)
      refine aw_aload_n d_Mo_dsaKeys_706 rfl rfl ?_
      refine ax_getR (b := 186) d_Mo_dsaKeys_707 fd_Mo_18 (k_175 S) (r_175_2 S) ?_
      refine aw_iconst d_Mo_dsaKeys_710 ⟨by decide, by decide⟩ ?_
      refine ax_ialde (x := 2560) d_Mo_dsaKeys_711 (k_186 S) (by omega) (by rw [n_186 S]; omega) ((putRow_ne (by decide)).trans a_up_at) ?_
      exact aw_iret d_Mo_dsaKeys_712 rfl (hP _ _ ⟨_, _, _, rfl, rfl, by rw [putRow_ne (by decide), a_up_ne (Or.inl (by decide)), cKeys_0 (by decide) n0 okk]; (rw [F4 175 4 (Or.inr (by decide)), putRow_ne (by decide), (F1.tr F2).1 175 4 (Or.inr (by decide)), putRow_ne (by decide), putRow_ne (by decide), a_up_ne (Or.inl (by decide)), putRow_ne (by decide), putRow_ne (by decide)]; exact c4), Or.inl ⟨cKeys_0 (by decide) n0 okk, fR0.fr R0 G6 (by intro a x y; exact ⟨fun z => z, by omega⟩) (by decide), rfl, ⟨fun j x y => by rw [putRow_ne (by decide), a_up_ne (Or.inr y), G4.1 186 j (by decide) (Or.inl (by decide)), putRow_ne (by decide), putRow_ne (by decide), a_up_ne (Or.inr x), G1.1 186 j (by decide) (Or.inl (by decide))]; exact R0.1 186 j (by omega) (fun z => z), by rw [putRow_ne (by decide), a_up_ne (Or.inr (by decide)), G4.1 186 1 (by decide) (Or.inl (by decide)), putRow_ne (by decide), putRow_ne (by decide), a_up_at]; rfl, by rw [putRow_ne (by decide), a_up_at]; rfl⟩, ⟨fun z x y => by rw [putRow_ne (by decide), a_up_ne (Or.inl (by decide)), G4.1 179 _ (by decide) (Or.inl (by decide))]; exact p2 z x y, fun j => by rw [putRow_ne (by decide), a_up_ne (Or.inl (by decide)), G4.1 179 _ (by decide) (Or.inl (by decide)), putRow_ne (by decide), putRow_ne (by decide), a_up_ne (Or.inl (by decide))]; have z := (rng.p (I := K2) (f := 179) (o := 0) (n := 32) (g := fun k => K2 202 (0 + k))).t (rng.p (I := putRow K2 179 0 32 (fun k => K2 202 (0 + k))) (f := 179) (o := 32) (n := 1280) (g := fun k => (putRow K2 179 0 32 (fun k => K2 202 (0 + k))) 263 (0 + k))) j; rwa [F.1 179 j (by decide) (Or.inl (by decide)), R0.1 179 j (by omega) (fun z => z)] at z⟩, r5, fun j => by have z := ((rng.p (I := a_up (putRow (putRow K2 179 0 32 (fun k => K2 202 (0 + k))) 179 32 1280 (fun k => (putRow K2 179 0 32 (fun k => K2 202 (0 + k))) 263 (0 + k))) 186 1 1312) (f := 180) (o := 0) (n := 32) (g := fun k => (a_up (putRow (putRow K2 179 0 32 (fun k => K2 202 (0 + k))) 179 32 1280 (fun k => (putRow K2 179 0 32 (fun k => K2 202 (0 + k))) 263 (0 + k))) 186 1 1312) 202 (0 + k))).t (rng.p (I := putRow (a_up (putRow (putRow K2 179 0 32 (fun k => K2 202 (0 + k))) 179 32 1280 (fun k => (putRow K2 179 0 32 (fun k => K2 202 (0 + k))) 263 (0 + k))) 186 1 1312) 180 0 32 (fun k => (a_up (putRow (putRow K2 179 0 32 (fun k => K2 202 (0 + k))) 179 32 1280 (fun k => (putRow K2 179 0 32 (fun k => K2 202 (0 + k))) 263 (0 + k))) 186 1 1312) 202 (0 + k))) (f := 180) (o := 32) (n := 32) (g := fun k => (putRow (a_up (putRow (putRow K2 179 0 32 (fun k => K2 202 (0 + k))) 179 32 1280 (fun k => (putRow K2 179 0 32 (fun k => K2 202 (0 + k))) 263 (0 + k))) 186 1 1312) 180 0 32 (fun k => (a_up (putRow (putRow K2 179 0 32 (fun k => K2 202 (0 + k))) 179 32 1280 (fun k => (putRow K2 179 0 32 (fun k => K2 202 (0 + k))) 263 (0 + k))) 186 1 1312) 202 (0 + k))) 202 (96 + k)))).t (rng.t (Y := I2 180) (fun j => Or.inl ((F1.tr F2).1 180 j (Or.inl (by decide)))) ((rng.g F4 (by decide)).t (rng.t (Y := (a_up I4 186 2 2560) 180) (fun j => Or.inl (a_up_ne (Or.inl (by decide)))) (rng.p (o := 128) (n := 2432) (g := fun k => (a_up I4 186 2 2560) 262 (0 + k)))))) j; rw [show (a_up (putRow (putRow K2 179 0 32 (fun k => K2 202 (0 + k))) 179 32 1280 (fun k => (putRow K2 179 0 32 (fun k => K2 202 (0 + k))) 263 (0 + k))) 186 1 1312) 180 j = I 180 j from by rw [a_up_ne (Or.inl (by decide)), putRow_ne (by decide), putRow_ne (by decide), F.1 180 j (by decide) (Or.inl (by decide)), R0.1 180 j (by omega) (fun z => z)]] at z; exact z⟩⟩)
    · skip
      refine aw_aload_n d_Mo_dsaKeys_508 rfl rfl ?_
      refine aw_aload_n d_Mo_dsaKeys_509 rfl rfl ?_
      refine ax_getR (b := 262) d_Mo_dsaKeys_510 fd_Mo_84 (k_175 S) (r_175_30 S) ?_
      refine aw_iconst d_Mo_dsaKeys_513 ⟨by decide, by decide⟩ ?_
      refine aw_aload_n d_Mo_dsaKeys_514 rfl rfl ?_
      refine ax_getR (b := 204) d_Mo_dsaKeys_515 fd_Mo_76 (k_175 S) (r_175_28 S) ?_
      refine aw_bipush d_Mo_dsaKeys_518 ⟨by decide, by decide⟩ (by decide) ?_
      refine aw_iload d_Mo_dsaKeys_520 rfl ?_
      refine ax_iadd d_Mo_dsaKeys_522 ⟨(by omega), (by omega)⟩ ?_
      refine ax_aald (b := 205 + (20 + i).toNat) d_Mo_dsaKeys_523 ⟨by rw [(k_204 S)]; decide, by rw [(k_204 S)]; decide⟩ (by omega) (by rw [n_204 S]; omega) (g_204 S (by omega) (by omega)) ?_
      refine aw_sipush d_Mo_dsaKeys_524 ⟨by decide, by decide⟩ (by decide) ?_
      refine aw_bipush d_Mo_dsaKeys_527 ⟨by decide, by decide⟩ (by decide) ?_
      refine ax_Vr (st := []) (as := [vr 262, vi 0, vr (205 + (20 + i).toNat), vi 4096, vi 13]) (b := 175) d_Mo_dsaKeys_529 cs_Mo_dsaKeys_529 (k_175 S) (c_Mo_pack (c := 768 + 416 * i) (d := 13) S ⟨k_262 S, by decide, by decide⟩ ⟨kr_204 S (by omega), by omega, nr_204 S (by omega)⟩ (by omega) (by decide) (by omega) (fun j x y => by rw [F.1 _ _ (by omega) (Or.inl (by omega)), hl i hi.1 (by omega) j x y]; have := kgT_in (s := 0) (g := (fun k => I 178 (0 + k))) (m := i) j x y; show 0 ≤ 4096 - ((kgT 0 (fun k => I 178 (0 + k))) i j - ((kgT 0 (fun k => I 178 (0 + k))) i j + 4096 - 1) / 8192 * 8192) ∧ 4096 - ((kgT 0 (fun k => I 178 (0 + k))) i j - ((kgT 0 (fun k => I 178 (0 + k))) i j + 4096 - 1) / 8192 * 8192) < 2 ^ 13; rw [show (2 ^ 13 : Int) = 8192 by decide]; omega) (by decide) (by rw [n_262 S]; omega)) rfl rfl rfl (fun u_529 q_529 => ?_)
      obtain ⟨q1, q2, q3⟩ := q_529
      show AW l G M_Mo_dsaKeys P 532 [(5, vi i), (0, vr 175)] [] (sD h u_529 M)
      refine ax_iinc (lv' := [(5, vi (i + 1)), (0, vr 175)]) d_Mo_dsaKeys_532 rfl (by decide) ⟨(by omega), (by omega)⟩ rfl ?_
      refine aw_goto (tgt := 499) d_Mo_dsaKeys_535 (by decide) ?_
      exact ih_499 _ (by omega) (i + 1) u_529 (by omega) (F.tr (FR.bits (p := fun a => a = 262) q1 rfl) (fun a x => ⟨x, x⟩)) (by omega) (fun z x y => by rw [q1 262 _ (Or.inr (by omega)) (Or.inl (by decide))]; exact h1 z x y) (fun z x y => by by_cases v : z < 416 * i; exact (by rw [q1 262 _ (Or.inr (by omega)) (Or.inl (by decide))]; exact h2 z x v); exact (by have y2 := q3 (z - 416 * i) (by omega) (by omega); rw [show (0 + (768 + 416 * i) + (z - 416 * i) : Int) = 768 + z by omega] at y2; rw [y2]; show _ = gB (fun j => 4096 - ((kgT 0 (fun k => I 178 (0 + k))) (z / 416) j - ((kgT 0 (fun k => I 178 (0 + k))) (z / 416) j + 4096 - 1) / 8192 * 8192)) 13 (z % 416); rw [show z / 416 = i by omega, show z % 416 = z - 416 * i by omega]; exact congrFun (gB_congr (fun j u v => by rw [F.1 _ _ (by omega) (Or.inl (by omega)), hl i hi.1 (by omega) j u v])) _)) ((q1 175 4 (Or.inl (by decide)) (Or.inr (by decide))).trans c4) rfl
  skip
  refine aw_sub (lv' := [(5, vi 0), (0, vr 175)]) (by simp) ?_
  exact lp_499 _ 0 (a_up K 175 23 6144) (by omega) (FR.b0) (by rw [a_up_at]; rfl) (hb.fr (L := M) (L' := M) (FR.b0 (p := fun _ => False)) (fun z => z) (by decide)) (fun z x y => by omega) (by rw [a_up_ne (Or.inr (by decide))]; exact h4) rfl
set_option maxHeartbeats 2000000 in
set_option maxRecDepth 100000 in
theorem kC0 {l : Launch} {G : a_G} {P : a_R → Hp → Prop} {h : Hp} {I L K M : Nat → Int → Int} (S : Shp h) (n0 : I 186 0 = 32) (R : fR0 qN I L K M) (D : RD K M 0) (hs : HR K 202 0 128 (kgSd 0 (fun k => I 178 (0 + k)))) (hb : HR K 262 0 768 (fun x => gB (fun j => 2 - (kgYs 0 (fun k => I 178 (0 + k))) (x / 96) j) 3 (x % 96))) (hV : ∀ m, 0 ≤ m → m < 4 → eqQ (K (205 + m.toNat)) (fwd rt ((kgY 0 (fun k => I 178 (0 + k))) m))) (hE : ∀ m, 0 ≤ m → m < 4 → eqQ (K (205 + (4 + m).toNat)) ((kgYs 0 (fun k => I 178 (0 + k))) (4 + m))) (h4 : K 175 4 = 0) (b1 : K 175 23 = 8 * (320 * 0)) (okS : ∀ m, 0 ≤ m → m < pK 0 + pL 0 → (sml (pE 0) (fun x => (kgSd 0 (fun k => I 178 (0 + k))) (32 + x)) m).2.1 = 256) (hP : ∀ r_ h2_, RsR h I L (cKeys 0 (I 186 0) (fun k => I 178 (0 + k))) (fun a => a = 179 ∨ a = 180 ∨ a = 186) (fun v I' _ => v = sSec 0 ∧ ((∀ j, j ≠ 1 → j ≠ 2 → I' 186 j = I 186 j) ∧ I' 186 1 = 32 + 320 * pK 0 ∧ I' 186 2 = sSec 0) ∧ (HR I' 179 0 (32 + 320 * pK 0) (kgPk 0 (fun k => I 178 (0 + k))) ∧ rng (I 179) (I' 179)) ∧ HR I' 180 0 (sSec 0) (kgSk 0 (fun k => I 178 (0 + k))) ∧ rng (I 180) (I' 180)) r_ h2_ → P r_ h2_) : AW l G M_Mo_dsaKeys P 272 [(5, vi 0), (4, vi 6144), (0, vr 175)] [] (sD h K M) := by
  have lp_272 : ∀ (n_ : Nat) (i : Int) (K : Nat → Int → Int) (M : Nat → Int → Int), (0 ≤ i ∧ i ≤ 4) → (fR0 qN I L K M) → (RD K M 0) → (HR K 202 0 128 (kgSd 0 (fun k => I 178 (0 + k)))) → (HR K 262 0 768 (fun x => gB (fun j => 2 - (kgYs 0 (fun k => I 178 (0 + k))) (x / 96) j) 3 (x % 96))) → (∀ m, 0 ≤ m → m < 4 → eqQ (K (205 + m.toNat)) (fwd rt ((kgY 0 (fun k => I 178 (0 + k))) m))) → (∀ m, 0 ≤ m → m < 4 → eqQ (K (205 + (4 + m).toNat)) ((kgYs 0 (fun k => I 178 (0 + k))) (4 + m))) → (K 175 23 = 8 * (320 * i)) → (HR K 263 0 (320 * i) (fun x => gB (fun j => ((kgT 0 (fun k => I 178 (0 + k))) (x / 320) j + 4096 - 1) / 8192) 10 (x % 320))) → (∀ m, 0 ≤ m → m < i → eqQ (K (205 + (20 + m).toNat)) (fun j => (kgT 0 (fun k => I 178 (0 + k))) m j - ((kgT 0 (fun k => I 178 (0 + k))) m j + 4096 - 1) / 8192 * 8192)) → (K 175 4 = 0) → (∀ m, 0 ≤ m → m < 4 * i → (wide (kgSd 0 (fun k => I 178 (0 + k))) (m % 4) (m / 4)).2.1 = 256) → ((4 - i).toNat) = n_ → AW l G M_Mo_dsaKeys P 272 [(5, vi i), (4, vi 6144), (0, vr 175)] [] (sD h K M) := by
    intro n_
    induction n_ using Nat.strongRecOn with
    | _ n_ ih_272 =>
    intro i K M hi R D hs hb hV hE b1 ho hl h4 okA hm_272
    refine aw_iload d_Mo_dsaKeys_272 rfl ?_
    refine aw_aload_n d_Mo_dsaKeys_274 rfl rfl ?_
    refine ax_getIe (x := 4) d_Mo_dsaKeys_275 fd_Mo_223 (k_175 S) (dr0_26 D) ?_
    refine aw_icmp_ge (tgt := 490) d_Mo_dsaKeys_278 (by decide) (fun c_278 => ?_) (fun c_278 => ?_)
    · skip
      refine aw_sub (lv' := [(4, vi 6144), (0, vr 175)]) (by simp) ?_
      exact kD0 S n0 R D hs hb (by rw [show (1280 : Int) = 320 * i by omega]; exact ho) (fun m a b => hl m a (by omega)) h4 ⟨fun m a b => okA m a (by have b2 : m < 16 := b; omega), okS⟩ hP
    · skip
      refine aw_aload_n d_Mo_dsaKeys_281 rfl rfl ?_
      refine ax_getR (b := 204) d_Mo_dsaKeys_282 fd_Mo_76 (k_175 S) (r_175_28 S) ?_
      refine aw_bipush d_Mo_dsaKeys_285 ⟨by decide, by decide⟩ (by decide) ?_
      refine ax_aald (b := 245) d_Mo_dsaKeys_287 ⟨by rw [(k_204 S)]; decide, by rw [(k_204 S)]; decide⟩ (by omega) (by rw [n_204 S]; omega) (g_204 S (j := 40) (by decide) (by decide)) ?_
      refine ax_S (st := []) (as := [vr 245]) (v := none) (h' := sD h (rowTo K 245 256 (fun _ => 0)) M) d_Mo_dsaKeys_288 cs_Mo_dsaKeys_288 (c_Mo_clear ⟨k_245 S, by decide, n_245 S⟩) rfl rfl rfl ?_
      show AW l G M_Mo_dsaKeys P 291 [(5, vi i), (4, vi 6144), (0, vr 175)] [] (sD h (rowTo K 245 256 (fun _ => 0)) M)
      refine aw_iconst d_Mo_dsaKeys_291 ⟨by decide, by decide⟩ ?_
      refine aw_istore (lv' := [(6, vi 0), (5, vi i), (4, vi 6144), (0, vr 175)]) d_Mo_dsaKeys_292 (by decide) rfl ?_
      have lp_294 : ∀ (n_ : Nat) (j : Int) (K2 : Nat → Int → Int) (M2 : Nat → Int → Int), (0 ≤ j ∧ j ≤ 4) → (FR (fun a => a = 245 ∨ a = 246) K M K2 M2) → (eqQ (K2 245) (fun c => pS (kgA 0 (fun k => I 178 (0 + k))) (fun j => fwd rt ((kgY 0 (fun k => I 178 (0 + k))) j)) (i * 4) c j.toNat % 8380417)) → (∀ m, 0 ≤ m → m < j → (wide (kgSd 0 (fun k => I 178 (0 + k))) m i).2.1 = 256) → (K2 175 4 = 0) → (K2 175 23 = 8 * (320 * i)) → ((4 - j).toNat) = n_ → AW l G M_Mo_dsaKeys P 294 [(6, vi j), (5, vi i), (4, vi 6144), (0, vr 175)] [] (sD h K2 M2) := by
        intro n_
        induction n_ using Nat.strongRecOn with
        | _ n_ ih_294 =>
        intro j K2 M2 hj F r2 okJ c4 b3 hm_294
        have hs2 := hs.fr F (by decide) (by decide)
        have D2 := D.fr F (by decide)
        refine aw_iload d_Mo_dsaKeys_294 rfl ?_
        refine aw_aload_n d_Mo_dsaKeys_296 rfl rfl ?_
        refine ax_getIe (x := 4) d_Mo_dsaKeys_297 fd_Mo_226 (k_175 S) (Eq.trans (F.1 175 32 (by omega) (Or.inr (by decide))) (dr0_32 D)) ?_
        refine aw_icmp_ge (tgt := 363) d_Mo_dsaKeys_300 (by decide) (fun c_300 => ?_) (fun c_300 => ?_)
        · skip
          refine aw_aload_n d_Mo_dsaKeys_363 rfl rfl ?_
          refine aw_aload_n d_Mo_dsaKeys_364 rfl rfl ?_
          refine ax_getR (b := 204) d_Mo_dsaKeys_365 fd_Mo_76 (k_175 S) (r_175_28 S) ?_
          refine aw_bipush d_Mo_dsaKeys_368 ⟨by decide, by decide⟩ (by decide) ?_
          refine ax_aald (b := 245) d_Mo_dsaKeys_370 ⟨by rw [(k_204 S)]; decide, by rw [(k_204 S)]; decide⟩ (by omega) (by rw [n_204 S]; omega) (g_204 S (j := 40) (by decide) (by decide)) ?_
          refine ax_Vr (st := []) (as := [vr 245]) (b := 175) d_Mo_dsaKeys_371 cs_Mo_dsaKeys_371 (k_175 S) (c_Mo_interpolate S ⟨k_245 S, by decide, n_245 S⟩ (by decide) (fun x a b => by rw [r2 x a b]; show 0 ≤ _ % 8380417 ∧ _ % 8380417 < 8380417; exact ⟨Int.emod_nonneg _ (by decide), Int.emod_lt_of_pos _ (by decide)⟩) D2.2.2) rfl rfl rfl (fun u_371 q_371 => ?_)
          have hl5 := q_371
          have r4 : eqQ ((rowTo K2 245 256 (itp (K2 245))) 245) (bck rt (fun c => pS (kgA 0 (fun k => I 178 (0 + k))) (fun j => fwd rt ((kgY 0 (fun k => I 178 (0 + k))) j)) (i * 4) c 4 % 8380417)) := fun x a b => by rw [rowTo_in a b, bck_itp a b]; exact itp_cq (fun k hk => cq.e (by rw [r2 k (by omega) (by omega), show j.toNat = 4 by omega]))
          show AW l G M_Mo_dsaKeys P 374 [(6, vi j), (5, vi i), (4, vi 6144), (0, vr 175)] [] (sD h (rowTo K2 245 256 (itp (K2 245))) u_371)
          refine aw_iconst d_Mo_dsaKeys_374 ⟨by decide, by decide⟩ ?_
          refine aw_istore (lv' := [(6, vi 0), (5, vi i), (4, vi 6144), (0, vr 175)]) d_Mo_dsaKeys_375 (by decide) rfl ?_
          have lp_377 : ∀ (n_ : Nat) (c : Int) (K4 : Nat → Int → Int), (0 ≤ c ∧ c ≤ 256) → (FR (fun a => a = 263 ∨ a = 205 + (20 + i).toNat) (rowTo K2 245 256 (itp (K2 245))) u_371 K4 u_371) → (∀ a j, (a ≠ 263 ∨ j < 0 + 320 * i) → (a ≠ 175 ∨ j ≠ 23) → a ≠ 205 + (20 + i).toNat → K4 a j = (rowTo K2 245 256 (itp (K2 245))) a j) → (K4 175 23 = 8 * (320 * i) + 10 * c) → (bIn (K4 263) (0 + 320 * i) (bV (fun j => ((kgT 0 (fun k => I 178 (0 + k))) i j + 4096 - 1) / 8192) 10 c.toNat) (10 * c.toNat)) → (∀ j, 0 ≤ j → j < c → K4 (205 + (20 + i).toNat) j = (fun j => (kgT 0 (fun k => I 178 (0 + k))) i j - ((kgT 0 (fun k => I 178 (0 + k))) i j + 4096 - 1) / 8192 * 8192) j) → ((256 - c).toNat) = n_ → AW l G M_Mo_dsaKeys P 377 [(6, vi c), (5, vi i), (4, vi 6144), (0, vr 175)] [] (sD h K4 u_371) := by
            intro n_
            induction n_ using Nat.strongRecOn with
            | _ n_ ih_377 =>
            intro c K4 hc Fc f1 b2 g1 lw hm_377
            have r5 : c < 256 → K4 245 c = bck rt (fun c => pS (kgA 0 (fun k => I 178 (0 + k))) (fun j => fwd rt ((kgY 0 (fun k => I 178 (0 + k))) j)) (i * 4) c 4 % 8380417) c := fun v => by rw [f1 245 c (Or.inl (by decide)) (Or.inl (by decide)) (by omega)]; exact r4 c hc.1 v
            have r6 : c < 256 → K4 (205 + (4 + i).toNat) c = (kgYs 0 (fun k => I 178 (0 + k))) (4 + i) c := fun v => by rw [f1 _ c (Or.inl (by omega)) (Or.inl (by omega)) (by omega), rowTo_ne (by omega), F.1 _ c (by omega) (Or.inl (by omega))]; exact hE i hi.1 (by omega) c hc.1 v
            refine aw_iload d_Mo_dsaKeys_377 rfl ?_
            refine aw_sipush d_Mo_dsaKeys_379 ⟨by decide, by decide⟩ (by decide) ?_
            refine aw_icmp_ge (tgt := 484) d_Mo_dsaKeys_382 (by decide) (fun c_382 => ?_) (fun c_382 => ?_)
            · skip
              refine ax_iinc (lv' := [(5, vi (i + 1)), (6, vi c), (4, vi 6144), (0, vr 175)]) d_Mo_dsaKeys_484 rfl (by decide) ⟨(by omega), (by omega)⟩ rfl ?_
              refine aw_goto (tgt := 272) d_Mo_dsaKeys_487 (by decide) ?_
              refine aw_sub (lv' := [(5, vi (i + 1)), (4, vi 6144), (0, vr 175)]) (by simp) ?_
              exact ih_272 _ (by omega) (i + 1) K4 u_371 (by omega) (fR0.fr (fR0.fr (fR0.fr R F (r := qN) (by intro a x y; exact ⟨fun z => z, by omega⟩) (by decide)) (FR.row (p := fun a => a = 245) rfl hl5) (r := qN) (by intro a x y; exact ⟨fun z => z, by omega⟩) (by decide)) (Fc : FR (fun a => a = 263 ∨ a = 205 + (20 + i).toNat) _ _ _ _) (by intro a x y; exact ⟨fun z => z, by omega⟩) (by omega)) (((D.fr F (by decide)).fr (FR.row (p := fun a => a = 245) rfl hl5) (by decide)).fr Fc (by omega)) (((hs.fr F (by decide) (by decide)).fr (FR.row (p := fun a => a = 245) rfl hl5) (by decide) (by decide)).fr Fc (by omega) (by decide)) (((hb.fr F (by decide) (by decide)).fr (FR.row (p := fun a => a = 245) rfl hl5) (by decide) (by decide)).fr Fc (by omega) (by decide)) (fun m a b j x y => by rw [Fc.1 _ _ (by omega) (Or.inl (by omega)), rowTo_ne (by omega), F.1 _ _ (by omega) (Or.inl (by omega))]; exact hV m a b j x y) (fun m a b j x y => by rw [Fc.1 _ _ (by omega) (Or.inl (by omega)), rowTo_ne (by omega), F.1 _ _ (by omega) (Or.inl (by omega))]; exact hE m a b j x y) (by omega) (fun z x y => by by_cases v : z < 320 * i; exact (by rw [f1 263 _ (Or.inr (by omega)) (Or.inl (by decide)) (by omega), rowTo_ne (by decide), F.1 _ _ (by decide) (Or.inl (by decide))]; exact ho z x v); exact (by have y2 := gB_of (by have w_ := g1; rw [show c.toNat = 256 by omega] at w_; exact w_) (z - 320 * i) (by omega) (by omega); rw [show (0 + 320 * i + (z - 320 * i) : Int) = 0 + z by omega] at y2; rw [y2]; show _ = gB (fun j => ((kgT 0 (fun k => I 178 (0 + k))) (z / 320) j + 4096 - 1) / 8192) 10 (z % 320); rw [show z / 320 = i by omega, show z % 320 = z - 320 * i by omega])) (fun m a b j x y => by by_cases v : m = i; exact (by rw [v]; exact lw j x (by omega)); exact (by rw [Fc.1 _ _ (by omega) (Or.inl (by omega)), rowTo_ne (by omega), F.1 _ _ (by omega) (Or.inl (by omega))]; exact hl m a (by omega) j x y)) (by rw [f1 175 4 (Or.inl (by decide)) (Or.inr (by decide)) (by omega), rowTo_ne (by decide)]; exact c4) (fun m a b => by by_cases v : m < 4 * i; exact okA m a v; exact (by have w_ := okJ (m - 4 * i) (by omega) (by omega); rw [show m % 4 = m - 4 * i by omega, show m / 4 = i by omega]; exact w_)) rfl
            · skip
              have q5 := bck_in (R := rt) (F := (fun c => pS (kgA 0 (fun k => I 178 (0 + k))) (fun j => fwd rt ((kgY 0 (fun k => I 178 (0 + k))) j)) (i * 4) c 4 % 8380417)) c hc.1 (by omega)
              have q6 := kgYs_b (s := 0) (g := (fun k => I 178 (0 + k))) (m := 4 + i) (j := c)
              rw [show pE 0 = 2 from rfl] at q6
              have q7 := kgT_in (s := 0) (g := (fun k => I 178 (0 + k))) (m := i) c hc.1 (by omega)
              refine aw_aload_n d_Mo_dsaKeys_385 rfl rfl ?_
              refine ax_getR (b := 204) d_Mo_dsaKeys_386 fd_Mo_76 (k_175 S) (r_175_28 S) ?_
              refine aw_bipush d_Mo_dsaKeys_389 ⟨by decide, by decide⟩ (by decide) ?_
              refine ax_aald (b := 245) d_Mo_dsaKeys_391 ⟨by rw [(k_204 S)]; decide, by rw [(k_204 S)]; decide⟩ (by omega) (by rw [n_204 S]; omega) (g_204 S (j := 40) (by decide) (by decide)) ?_
              refine aw_iload d_Mo_dsaKeys_392 rfl ?_
              refine ax_ialde (x := bck rt (fun c => pS (kgA 0 (fun k => I 178 (0 + k))) (fun j => fwd rt ((kgY 0 (fun k => I 178 (0 + k))) j)) (i * 4) c 4 % 8380417) c) d_Mo_dsaKeys_394 (k_245 S) (by omega) (by rw [n_245 S]; omega) (r5 (by omega)) ?_
              refine aw_aload_n d_Mo_dsaKeys_395 rfl rfl ?_
              refine ax_getR (b := 204) d_Mo_dsaKeys_396 fd_Mo_76 (k_175 S) (r_175_28 S) ?_
              refine aw_aload_n d_Mo_dsaKeys_399 rfl rfl ?_
              refine ax_getIe (x := 4) d_Mo_dsaKeys_400 fd_Mo_226 (k_175 S) (Eq.trans (f1 175 32 (Or.inl (by decide)) (Or.inr (by decide)) (by omega)) (Eq.trans (rowTo_ne (by decide)) (Eq.trans (F.1 175 32 (by omega) (Or.inr (by decide))) (dr0_32 D)))) ?_
              refine aw_iload d_Mo_dsaKeys_403 rfl ?_
              refine ax_iadd d_Mo_dsaKeys_405 ⟨(by omega), (by omega)⟩ ?_
              refine ax_aald (b := 205 + (4 + i).toNat) d_Mo_dsaKeys_406 ⟨by rw [(k_204 S)]; decide, by rw [(k_204 S)]; decide⟩ (by omega) (by rw [n_204 S]; omega) (g_204 S (by omega) (by omega)) ?_
              refine aw_iload d_Mo_dsaKeys_407 rfl ?_
              refine ax_ialde (x := (kgYs 0 (fun k => I 178 (0 + k))) (4 + i) c) d_Mo_dsaKeys_409 (kr_204 S (by omega)) (by omega) (by rw [nr_204 S (by omega)]; omega) (r6 (by omega)) ?_
              refine ax_iadd d_Mo_dsaKeys_410 ⟨(by omega), (by omega)⟩ ?_
              refine aw_ldcw (n := 8380417) d_Mo_dsaKeys_411 lc_Mo_264 ⟨by decide, by decide⟩ ?_
              refine ax_iadd d_Mo_dsaKeys_414 ⟨(by omega), (by omega)⟩ ?_
              refine aw_ldcw (n := 8380417) d_Mo_dsaKeys_415 lc_Mo_264 ⟨by decide, by decide⟩ ?_
              refine ax_irem d_Mo_dsaKeys_418 (by omega) (by omega) ?_
              refine ax_ti (x := (kgT 0 (fun k => I 178 (0 + k))) i c) (by unfold kgT; rw [show pL 0 = 4 from rfl, kgY_Ys, show (4 : Int).toNat = 4 from rfl]; omega) ?_
              refine aw_istore (lv' := [(7, vi ((kgT 0 (fun k => I 178 (0 + k))) i c)), (6, vi c), (5, vi i), (4, vi 6144), (0, vr 175)]) d_Mo_dsaKeys_419 (by decide) rfl ?_
              refine aw_iload d_Mo_dsaKeys_421 rfl ?_
              refine aw_sipush d_Mo_dsaKeys_423 ⟨by decide, by decide⟩ (by decide) ?_
              refine ax_irem d_Mo_dsaKeys_426 (by omega) (by omega) ?_
              refine aw_istore (lv' := [(8, vi (((kgT 0 (fun k => I 178 (0 + k))) i c) % 8192)), (7, vi ((kgT 0 (fun k => I 178 (0 + k))) i c)), (6, vi c), (5, vi i), (4, vi 6144), (0, vr 175)]) d_Mo_dsaKeys_427 (by decide) rfl ?_
              refine aw_iload d_Mo_dsaKeys_429 rfl ?_
              refine aw_sipush d_Mo_dsaKeys_431 ⟨by decide, by decide⟩ (by decide) ?_
              refine aw_icmp_le (tgt := 443) d_Mo_dsaKeys_434 (by decide) (fun c_434 => ?_) (fun c_434 => ?_)
              · skip
                refine aw_aload_n d_Mo_dsaKeys_443 rfl rfl ?_
                refine ax_getR (b := 204) d_Mo_dsaKeys_444 fd_Mo_76 (k_175 S) (r_175_28 S) ?_
                refine aw_bipush d_Mo_dsaKeys_447 ⟨by decide, by decide⟩ (by decide) ?_
                refine aw_iload d_Mo_dsaKeys_449 rfl ?_
                refine ax_iadd d_Mo_dsaKeys_451 ⟨(by omega), (by omega)⟩ ?_
                refine ax_aald (b := 205 + (20 + i).toNat) d_Mo_dsaKeys_452 ⟨by rw [(k_204 S)]; decide, by rw [(k_204 S)]; decide⟩ (by omega) (by rw [n_204 S]; omega) (g_204 S (by omega) (by omega)) ?_
                refine aw_iload d_Mo_dsaKeys_453 rfl ?_
                refine aw_iload d_Mo_dsaKeys_455 rfl ?_
                refine ax_iast d_Mo_dsaKeys_457 (kr_204 S (by omega)) (by omega) (by omega) (by rw [nr_204 S (by omega)]; omega) ?_
                have tv : ((kgT 0 (fun k => I 178 (0 + k))) i c - (((kgT 0 (fun k => I 178 (0 + k))) i c) % 8192)) / 8192 = ((kgT 0 (fun k => I 178 (0 + k))) i c + 4096 - 1) / 8192 := by omega
                refine aw_aload_n d_Mo_dsaKeys_458 rfl rfl ?_
                refine aw_aload_n d_Mo_dsaKeys_459 rfl rfl ?_
                refine ax_getR (b := 263) d_Mo_dsaKeys_460 fd_Mo_87 (k_175 S) (r_175_31 S) ?_
                refine aw_iconst d_Mo_dsaKeys_463 ⟨by decide, by decide⟩ ?_
                refine aw_iload d_Mo_dsaKeys_464 rfl ?_
                refine aw_iload d_Mo_dsaKeys_466 rfl ?_
                refine ax_isub d_Mo_dsaKeys_468 ⟨(by omega), (by omega)⟩ ?_
                refine aw_sipush d_Mo_dsaKeys_469 ⟨by decide, by decide⟩ (by decide) ?_
                refine ax_idiv d_Mo_dsaKeys_472 ⟨(by omega), (by omega)⟩ (by omega) ?_
                refine aw_bipush d_Mo_dsaKeys_473 ⟨by decide, by decide⟩ (by decide) ?_
                refine ax_Vr (st := []) (as := [vr 263, vi 0, vi ((((kgT 0 (fun k => I 178 (0 + k))) i c) - (((kgT 0 (fun k => I 178 (0 + k))) i c) % 8192)) / 8192), vi 10]) (b := 175) d_Mo_dsaKeys_475 cs_Mo_dsaKeys_475 (k_175 S) (c_Mo_putBits (q := 10 * c.toNat) (V := bV (fun j => ((kgT 0 (fun k => I 178 (0 + k))) i j + 4096 - 1) / 8192) 10 c.toNat) (c := 320 * i) (d := 10) S ⟨k_263 S, by decide, by decide⟩ (by decide) (by rw [tv, show (2 ^ 10 : Int) = 1024 by decide]; omega) (by rw [a_up_ne (Or.inl (by omega))]; omega) (by rw [show (a_up K4 (205 + (20 + i).toNat) c _ : Nat → Int → Int) 263 = K4 263 from funext (fun z => a_up_ne (Or.inl (by omega)))]; exact g1) (by rw [n_263 S]; omega)) rfl rfl rfl (fun u_475 q_475 => ?_)
                obtain ⟨q1, q2, q3⟩ := q_475
                show AW l G M_Mo_dsaKeys P 478 [(8, vi (((kgT 0 (fun k => I 178 (0 + k))) i c) % 8192)), (7, vi ((kgT 0 (fun k => I 178 (0 + k))) i c)), (6, vi c), (5, vi i), (4, vi 6144), (0, vr 175)] [] (sD h u_475 u_371)
                refine ax_iinc (lv' := [(6, vi (c + 1)), (8, vi (((kgT 0 (fun k => I 178 (0 + k))) i c) % 8192)), (7, vi ((kgT 0 (fun k => I 178 (0 + k))) i c)), (5, vi i), (4, vi 6144), (0, vr 175)]) d_Mo_dsaKeys_478 rfl (by decide) ⟨(by omega), (by omega)⟩ rfl ?_
                refine aw_goto (tgt := 377) d_Mo_dsaKeys_481 (by decide) ?_
                refine aw_sub (lv' := [(6, vi (c + 1)), (5, vi i), (4, vi 6144), (0, vr 175)]) (by simp) ?_
                exact ih_377 _ (by omega) (c + 1) u_475 (by omega) ((Fc.tr (FR.up (p := fun a => a = 205 + (20 + i).toNat) rfl) (r := fun a => a = 263 ∨ a = 205 + (20 + i).toNat) (by intro a x; omega)).tr (FR.bits (p := fun a => a = 263) q1 rfl) (by intro a x; omega)) (fun a j x y z => (q1 a j x y).trans ((a_up_ne (Or.inl z)).trans (f1 a j x y z))) (by omega) (by rw [show (c + 1).toNat = c.toNat + 1 by omega]; show bIn _ _ (bV (fun j => ((kgT 0 (fun k => I 178 (0 + k))) i j + 4096 - 1) / 8192) 10 c.toNat + ((kgT 0 (fun k => I 178 (0 + k))) i (c.toNat : Int) + 4096 - 1) / 8192 * 2 ^ (10 * c.toNat)) _; rw [Int.toNat_of_nonneg hc.1, ← tv]; exact q3) (fun j a b => by rw [q1 _ j (Or.inl (by omega)) (Or.inl (by omega))]; by_cases v : j = c; exact (by rw [v, a_up_at]; show _ = (kgT 0 (fun k => I 178 (0 + k))) i c - ((kgT 0 (fun k => I 178 (0 + k))) i c + 4096 - 1) / 8192 * 8192; omega); exact (by rw [a_up_ne (Or.inr v)]; exact lw j a (by omega))) rfl
              · skip
                refine ax_iincW (lv' := [(8, vi (((kgT 0 (fun k => I 178 (0 + k))) i c) % 8192 + (-8192))), (7, vi ((kgT 0 (fun k => I 178 (0 + k))) i c)), (6, vi c), (5, vi i), (4, vi 6144), (0, vr 175)]) d_Mo_dsaKeys_437 rfl (by decide) ⟨(by omega), (by omega)⟩ rfl ?_
                refine aw_aload_n d_Mo_dsaKeys_443 rfl rfl ?_
                refine ax_getR (b := 204) d_Mo_dsaKeys_444 fd_Mo_76 (k_175 S) (r_175_28 S) ?_
                refine aw_bipush d_Mo_dsaKeys_447 ⟨by decide, by decide⟩ (by decide) ?_
                refine aw_iload d_Mo_dsaKeys_449 rfl ?_
                refine ax_iadd d_Mo_dsaKeys_451 ⟨(by omega), (by omega)⟩ ?_
                refine ax_aald (b := 205 + (20 + i).toNat) d_Mo_dsaKeys_452 ⟨by rw [(k_204 S)]; decide, by rw [(k_204 S)]; decide⟩ (by omega) (by rw [n_204 S]; omega) (g_204 S (by omega) (by omega)) ?_
                refine aw_iload d_Mo_dsaKeys_453 rfl ?_
                refine aw_iload d_Mo_dsaKeys_455 rfl ?_
                refine ax_iast d_Mo_dsaKeys_457 (kr_204 S (by omega)) (by omega) (by omega) (by rw [nr_204 S (by omega)]; omega) ?_
                have tv : ((kgT 0 (fun k => I 178 (0 + k))) i c - (((kgT 0 (fun k => I 178 (0 + k))) i c) % 8192 + (-8192))) / 8192 = ((kgT 0 (fun k => I 178 (0 + k))) i c + 4096 - 1) / 8192 := by omega
                refine aw_aload_n d_Mo_dsaKeys_458 rfl rfl ?_
                refine aw_aload_n d_Mo_dsaKeys_459 rfl rfl ?_
                refine ax_getR (b := 263) d_Mo_dsaKeys_460 fd_Mo_87 (k_175 S) (r_175_31 S) ?_
                refine aw_iconst d_Mo_dsaKeys_463 ⟨by decide, by decide⟩ ?_
                refine aw_iload d_Mo_dsaKeys_464 rfl ?_
                refine aw_iload d_Mo_dsaKeys_466 rfl ?_
                refine ax_isub d_Mo_dsaKeys_468 ⟨(by omega), (by omega)⟩ ?_
                refine aw_sipush d_Mo_dsaKeys_469 ⟨by decide, by decide⟩ (by decide) ?_
                refine ax_idiv d_Mo_dsaKeys_472 ⟨(by omega), (by omega)⟩ (by omega) ?_
                refine aw_bipush d_Mo_dsaKeys_473 ⟨by decide, by decide⟩ (by decide) ?_
                refine ax_Vr (st := []) (as := [vr 263, vi 0, vi ((((kgT 0 (fun k => I 178 (0 + k))) i c) - (((kgT 0 (fun k => I 178 (0 + k))) i c) % 8192 + (-8192))) / 8192), vi 10]) (b := 175) d_Mo_dsaKeys_475 cs_Mo_dsaKeys_475 (k_175 S) (c_Mo_putBits (q := 10 * c.toNat) (V := bV (fun j => ((kgT 0 (fun k => I 178 (0 + k))) i j + 4096 - 1) / 8192) 10 c.toNat) (c := 320 * i) (d := 10) S ⟨k_263 S, by decide, by decide⟩ (by decide) (by rw [tv, show (2 ^ 10 : Int) = 1024 by decide]; omega) (by rw [a_up_ne (Or.inl (by omega))]; omega) (by rw [show (a_up K4 (205 + (20 + i).toNat) c _ : Nat → Int → Int) 263 = K4 263 from funext (fun z => a_up_ne (Or.inl (by omega)))]; exact g1) (by rw [n_263 S]; omega)) rfl rfl rfl (fun u_475 q_475 => ?_)
                obtain ⟨q1, q2, q3⟩ := q_475
                show AW l G M_Mo_dsaKeys P 478 [(8, vi (((kgT 0 (fun k => I 178 (0 + k))) i c) % 8192 + (-8192))), (7, vi ((kgT 0 (fun k => I 178 (0 + k))) i c)), (6, vi c), (5, vi i), (4, vi 6144), (0, vr 175)] [] (sD h u_475 u_371)
                refine ax_iinc (lv' := [(6, vi (c + 1)), (8, vi (((kgT 0 (fun k => I 178 (0 + k))) i c) % 8192 + (-8192))), (7, vi ((kgT 0 (fun k => I 178 (0 + k))) i c)), (5, vi i), (4, vi 6144), (0, vr 175)]) d_Mo_dsaKeys_478 rfl (by decide) ⟨(by omega), (by omega)⟩ rfl ?_
                refine aw_goto (tgt := 377) d_Mo_dsaKeys_481 (by decide) ?_
                refine aw_sub (lv' := [(6, vi (c + 1)), (5, vi i), (4, vi 6144), (0, vr 175)]) (by simp) ?_
                exact ih_377 _ (by omega) (c + 1) u_475 (by omega) ((Fc.tr (FR.up (p := fun a => a = 205 + (20 + i).toNat) rfl) (r := fun a => a = 263 ∨ a = 205 + (20 + i).toNat) (by intro a x; omega)).tr (FR.bits (p := fun a => a = 263) q1 rfl) (by intro a x; omega)) (fun a j x y z => (q1 a j x y).trans ((a_up_ne (Or.inl z)).trans (f1 a j x y z))) (by omega) (by rw [show (c + 1).toNat = c.toNat + 1 by omega]; show bIn _ _ (bV (fun j => ((kgT 0 (fun k => I 178 (0 + k))) i j + 4096 - 1) / 8192) 10 c.toNat + ((kgT 0 (fun k => I 178 (0 + k))) i (c.toNat : Int) + 4096 - 1) / 8192 * 2 ^ (10 * c.toNat)) _; rw [Int.toNat_of_nonneg hc.1, ← tv]; exact q3) (fun j a b => by rw [q1 _ j (Or.inl (by omega)) (Or.inl (by omega))]; by_cases v : j = c; exact (by rw [v, a_up_at]; show _ = (kgT 0 (fun k => I 178 (0 + k))) i c - ((kgT 0 (fun k => I 178 (0 + k))) i c + 4096 - 1) / 8192 * 8192; omega); exact (by rw [a_up_ne (Or.inr v)]; exact lw j a (by omega))) rfl
          skip
          exact lp_377 _ 0 (rowTo K2 245 256 (itp (K2 245))) (by omega) (FR.rfl') (fun _ _ _ _ _ => rfl) (by rw [rowTo_ne (by decide), b3]; omega) (⟨⟨Int.le_refl _, by simp [bV]⟩, fun m hm => absurd hm (by simp)⟩) (fun j a b => by omega) rfl
        · skip
          refine aw_aload_n d_Mo_dsaKeys_303 rfl rfl ?_
          refine aw_aload_n d_Mo_dsaKeys_304 rfl rfl ?_
          refine aw_aload_n d_Mo_dsaKeys_305 rfl rfl ?_
          refine ax_getR (b := 204) d_Mo_dsaKeys_306 fd_Mo_76 (k_175 S) (r_175_28 S) ?_
          refine aw_bipush d_Mo_dsaKeys_309 ⟨by decide, by decide⟩ (by decide) ?_
          refine ax_aald (b := 246) d_Mo_dsaKeys_311 ⟨by rw [(k_204 S)]; decide, by rw [(k_204 S)]; decide⟩ (by omega) (by rw [n_204 S]; omega) (g_204 S (j := 41) (by decide) (by decide)) ?_
          refine aw_aload_n d_Mo_dsaKeys_312 rfl rfl ?_
          refine ax_getR (b := 202) d_Mo_dsaKeys_313 fd_Mo_68 (k_175 S) (r_175_25 S) ?_
          refine aw_iconst d_Mo_dsaKeys_316 ⟨by decide, by decide⟩ ?_
          refine aw_iload d_Mo_dsaKeys_317 rfl ?_
          refine aw_iload d_Mo_dsaKeys_319 rfl ?_
          refine ax_Vr (st := [vr 175]) (as := [vr 246, vr 202, vi 0, vi j, vi i]) (b := 175) d_Mo_dsaKeys_321 cs_Mo_dsaKeys_321 (k_175 S) (by have z := c_Mo_sampleWide (l := l) (G := G) (I := K2) (L := M2) (f := 246) (r := 202) (pa := 0) (x := j) (y := i) S D2.1 ⟨k_246 S, by decide, n_246 S⟩ (by decide) ⟨k_202 S, by decide, by decide⟩ (by rw [n_202 S]; decide); rw [wide_HR hs2 (kgSd_m _ _)] at z; exact z) rfl rfl rfl (fun u_321 q_321 => ?_)
          obtain ⟨I3, L3⟩ := u_321
          obtain ⟨f3, r3⟩ := q_321
          dsimp only at f3 r3 ⊢
          by_cases ok_321 : (wide (kgSd 0 (fun k => I 178 (0 + k))) j i).2.1 = 256
          · skip
            rw [if_pos ok_321]
            show AW l G M_Mo_dsaKeys P 324 [(6, vi j), (5, vi i), (4, vi 6144), (0, vr 175)] [vi 1, vr 175] (sD h I3 L3)
            refine aw_iconst d_Mo_dsaKeys_324 ⟨by decide, by decide⟩ ?_
            refine ax_V (st := []) (as := [vi 1, vi 3]) (b := 175) (v := some (vi 1)) (h' := sD h (a_up I3 175 4 0) L3) d_Mo_dsaKeys_325 cs_Mo_dsaKeys_325 (k_175 S) (c_good1 S rfl) rfl rfl rfl ?_
            show AW l G M_Mo_dsaKeys P 328 [(6, vi j), (5, vi i), (4, vi 6144), (0, vr 175)] [vi 1] (sD h (a_up I3 175 4 0) L3)
            refine aw_if_ne (tgt := 333) d_Mo_dsaKeys_328 (by decide) (fun c_328 => ?_) (fun c_328 => False.elim (by omega))
            refine aw_aload_n d_Mo_dsaKeys_333 rfl rfl ?_
            refine ax_getR (b := 204) d_Mo_dsaKeys_334 fd_Mo_76 (k_175 S) (r_175_28 S) ?_
            refine aw_bipush d_Mo_dsaKeys_337 ⟨by decide, by decide⟩ (by decide) ?_
            refine ax_aald (b := 245) d_Mo_dsaKeys_339 ⟨by rw [(k_204 S)]; decide, by rw [(k_204 S)]; decide⟩ (by omega) (by rw [n_204 S]; omega) (g_204 S (j := 40) (by decide) (by decide)) ?_
            refine aw_aload_n d_Mo_dsaKeys_340 rfl rfl ?_
            refine ax_getR (b := 204) d_Mo_dsaKeys_341 fd_Mo_76 (k_175 S) (r_175_28 S) ?_
            refine aw_bipush d_Mo_dsaKeys_344 ⟨by decide, by decide⟩ (by decide) ?_
            refine ax_aald (b := 246) d_Mo_dsaKeys_346 ⟨by rw [(k_204 S)]; decide, by rw [(k_204 S)]; decide⟩ (by omega) (by rw [n_204 S]; omega) (g_204 S (j := 41) (by decide) (by decide)) ?_
            refine aw_aload_n d_Mo_dsaKeys_347 rfl rfl ?_
            refine ax_getR (b := 204) d_Mo_dsaKeys_348 fd_Mo_76 (k_175 S) (r_175_28 S) ?_
            refine aw_iload d_Mo_dsaKeys_351 rfl ?_
            refine ax_aald (b := 205 + j.toNat) d_Mo_dsaKeys_353 ⟨by rw [(k_204 S)]; decide, by rw [(k_204 S)]; decide⟩ (by omega) (by rw [n_204 S]; omega) (g_204 S (by omega) (by omega)) ?_
            refine ax_S (st := []) (as := [vr 245, vr 246, vr (205 + j.toNat)]) (v := none) (h' := sD h (rowTo (a_up I3 175 4 0) 245 256 (fun x => ((a_up I3 175 4 0) 245 x + (a_up I3 175 4 0) 246 x * (a_up I3 175 4 0) (205 + j.toNat) x) % 8380417)) L3) d_Mo_dsaKeys_354 cs_Mo_dsaKeys_354 (c_Mo_addProducts ⟨k_245 S, by decide, n_245 S⟩ ⟨k_246 S, by decide, n_246 S⟩ ⟨kr_204 S (by omega), by omega, nr_204 S (by omega)⟩ (fun x a b => by rw [a_up_ne (Or.inl (by decide)), f3.1 245 x (Or.inl (by decide)) (by decide), r2 x a b]; show 0 ≤ _ % 8380417 ∧ _ % 8380417 < 8380417; exact ⟨Int.emod_nonneg _ (by decide), Int.emod_lt_of_pos _ (by decide)⟩) (fun x a b => by rw [a_up_ne (Or.inl (by decide)), r3 x a (by rw [ok_321]; exact b)]; exact wide_b.2 x) (fun x a b => by rw [a_up_ne (Or.inl (by omega)), f3.1 _ x (Or.inl (by omega)) (by omega), F.1 _ x (by omega) (Or.inl (by omega)), hV j hj.1 (by omega) x a b]; exact fwd_in kgY_in x a b)) rfl rfl rfl ?_
            show AW l G M_Mo_dsaKeys P 357 [(6, vi j), (5, vi i), (4, vi 6144), (0, vr 175)] [] (sD h (rowTo (a_up I3 175 4 0) 245 256 (fun x => ((a_up I3 175 4 0) 245 x + (a_up I3 175 4 0) 246 x * (a_up I3 175 4 0) (205 + j.toNat) x) % 8380417)) L3)
            refine ax_iinc (lv' := [(6, vi (j + 1)), (5, vi i), (4, vi 6144), (0, vr 175)]) d_Mo_dsaKeys_357 rfl (by decide) ⟨(by omega), (by omega)⟩ rfl ?_
            refine aw_goto (tgt := 294) d_Mo_dsaKeys_360 (by decide) ?_
            exact ih_294 _ (by omega) (j + 1) (rowTo (a_up I3 175 4 0) 245 256 (fun x => ((a_up I3 175 4 0) 245 x + (a_up I3 175 4 0) 246 x * (a_up I3 175 4 0) (205 + j.toNat) x) % 8380417)) L3 (by omega) (((F.tr (FR.smp (p := fun a => a = 246) f3 rfl) (r := fun a => a = 245 ∨ a = 246) (by intro a x; omega)).tr (FR.c0 (p := fun _ => False)) (r := fun a => a = 245 ∨ a = 246) (by intro a x; exact ⟨x, fun z => z⟩)).tr (FR.row (p := fun a => a = 245) rfl (fun _ _ _ => rfl)) (by intro a x; omega)) (fun x a b => by rw [rowTo_in a b, a_up_ne (Or.inl (by decide)), a_up_ne (Or.inl (by decide)), a_up_ne (Or.inl (by omega)), f3.1 245 x (Or.inl (by decide)) (by decide), r2 x a b, r3 x a (by rw [ok_321]; exact b), f3.1 _ x (Or.inl (by omega)) (by omega), F.1 _ x (by omega) (Or.inl (by omega)), hV j hj.1 (by omega) x a b, show (j + 1).toNat = j.toNat + 1 by omega]; show _ = (pS (kgA 0 (fun k => I 178 (0 + k))) (fun j => fwd rt ((kgY 0 (fun k => I 178 (0 + k))) j)) (i * 4) x j.toNat + (kgA 0 (fun k => I 178 (0 + k))) (i * 4 + (j.toNat : Int)) x * (fwd rt ((kgY 0 (fun k => I 178 (0 + k))) (j.toNat : Int)) x)) % 8380417; rw [Int.toNat_of_nonneg hj.1, show (kgA 0 (fun k => I 178 (0 + k))) (i * 4 + j) x = (wide (kgSd 0 (fun k => I 178 (0 + k))) j i).2.2 x from by unfold kgA; rw [show pL 0 = 4 from rfl, show (i * 4 + j) % 4 = j by omega, show (i * 4 + j) / 4 = i by omega]]; exact Int.emod_add_emod _ _ _) (fun m a b => by by_cases z : m = j; exact (by rw [z]; exact ok_321); exact okJ m a (by omega)) (by rw [rowTo_ne (by decide), a_up_at]) (by rw [rowTo_ne (by decide), a_up_ne (Or.inr (by decide)), f3.1 175 23 (Or.inr (by decide)) (by decide)]; exact b3) rfl
          · skip
            rw [if_neg ok_321]
            show AW l G M_Mo_dsaKeys P 324 [(6, vi j), (5, vi i), (4, vi 6144), (0, vr 175)] [vi 0, vr 175] (sD h I3 L3)
            refine aw_iconst d_Mo_dsaKeys_324 ⟨by decide, by decide⟩ ?_
            refine ax_V (st := []) (as := [vi 0, vi 3]) (b := 175) (v := some (vi 0)) (h' := sD h (a_up I3 175 4 3) L3) d_Mo_dsaKeys_325 cs_Mo_dsaKeys_325 (k_175 S) (c_good0 S rfl) rfl rfl rfl ?_
            show AW l G M_Mo_dsaKeys P 328 [(6, vi j), (5, vi i), (4, vi 6144), (0, vr 175)] [vi 0] (sD h (a_up I3 175 4 3) L3)
            refine aw_if_ne (tgt := 333) d_Mo_dsaKeys_328 (by decide) (fun c_328 => False.elim (by omega)) (fun c_328 => ?_)
            refine aw_iconst d_Mo_dsaKeys_331 ⟨by decide, by decide⟩ ?_
            exact aw_iret d_Mo_dsaKeys_332 rfl (hP _ _ (rsNo 0 3 (cKeys_3 (by decide) n0 (fun z => ok_321 (by have y := z.1 (i * 4 + j) (by omega) (by show i * 4 + j < 16; omega); rw [show pL 0 = 4 from rfl, show (i * 4 + j) % 4 = j by omega, show (i * 4 + j) / 4 = i by omega] at y; exact y))) (by decide) a_up_at (fR0.fr (fR0.fr (fR0.fr R F (r := qN) (by intro a x y; exact ⟨fun z => z, by omega⟩) (by decide)) (FR.smp (p := fun a => a = 246) f3 rfl) (r := qN) (by intro a x y; exact ⟨fun z => z, by omega⟩) (by decide)) (FR.c0 (p := fun _ => False)) (by intro a x y; exact ⟨fun z => z, fun z => z⟩) (fun z => z))))
      skip
      exact lp_294 _ 0 (rowTo K 245 256 (fun _ => 0)) M (by omega) (FR.row (p := fun a => a = 245 ∨ a = 246) (by omega) (fun _ _ _ => rfl)) (fun x a b => by rw [rowTo_in a b]; rfl) (fun m a b => by omega) (by rw [rowTo_ne (by decide)]; exact h4) (by rw [rowTo_ne (by decide)]; exact b1) rfl
  exact lp_272 _ 0 K M (by omega) (R) (D) (hs) (hb) (hV) (hE) (b1) (fun z x y => by omega) (fun m a b => by omega) (h4) (fun m a b => by omega) rfl
set_option maxHeartbeats 2000000 in
set_option maxRecDepth 100000 in
theorem kB0 {l : Launch} {G : a_G} {P : a_R → Hp → Prop} {h : Hp} {I L K M : Nat → Int → Int} (S : Shp h) (n0 : I 186 0 = 32) (R0 : fR0 qN I L K M) (D : RD K M 0) (hs : HR K 202 0 128 (kgSd 0 (fun k => I 178 (0 + k)))) (hY : ∀ m, 0 ≤ m → m < 8 → eqQ (K (205 + m.toNat)) ((kgYs 0 (fun k => I 178 (0 + k))) m)) (h4 : K 175 4 = 0) (okS : ∀ m, 0 ≤ m → m < pK 0 + pL 0 → (sml (pE 0) (fun x => (kgSd 0 (fun k => I 178 (0 + k))) (32 + x)) m).2.1 = 256) (hP : ∀ r_ h2_, RsR h I L (cKeys 0 (I 186 0) (fun k => I 178 (0 + k))) (fun a => a = 179 ∨ a = 180 ∨ a = 186) (fun v I' _ => v = sSec 0 ∧ ((∀ j, j ≠ 1 → j ≠ 2 → I' 186 j = I 186 j) ∧ I' 186 1 = 32 + 320 * pK 0 ∧ I' 186 2 = sSec 0) ∧ (HR I' 179 0 (32 + 320 * pK 0) (kgPk 0 (fun k => I 178 (0 + k))) ∧ rng (I 179) (I' 179)) ∧ HR I' 180 0 (sSec 0) (kgSk 0 (fun k => I 178 (0 + k))) ∧ rng (I 180) (I' 180)) r_ h2_ → P r_ h2_) : AW l G M_Mo_dsaKeys P 156 [(0, vr 175)] [] (sD h K M) := by
  refine aw_aload_n d_Mo_dsaKeys_156 rfl rfl ?_
  refine ax_getIe (x := 2) d_Mo_dsaKeys_157 fd_Mo_229 (k_175 S) (dr0_33 D) ?_
  refine aw_iconst d_Mo_dsaKeys_160 ⟨by decide, by decide⟩ ?_
  refine aw_icmp_ne (tgt := 168) d_Mo_dsaKeys_161 (by decide) (fun c_161 => False.elim (by omega)) (fun c_161 => ?_)
  refine aw_iconst d_Mo_dsaKeys_164 ⟨by decide, by decide⟩ ?_
  refine aw_goto (tgt := 169) d_Mo_dsaKeys_165 (by decide) ?_
  refine aw_istore_n (lv' := [(3, vi 3), (0, vr 175)]) d_Mo_dsaKeys_169 rfl (by decide) rfl ?_
  refine aw_aload_n d_Mo_dsaKeys_170 rfl rfl ?_
  refine aw_iconst d_Mo_dsaKeys_171 ⟨by decide, by decide⟩ ?_
  refine ax_putI d_Mo_dsaKeys_172 fd_Mo_216 (k_175 S) (by decide) rfl ?_
  refine aw_iconst d_Mo_dsaKeys_175 ⟨by decide, by decide⟩ ?_
  refine aw_istore (lv' := [(4, vi 0), (3, vi 3), (0, vr 175)]) d_Mo_dsaKeys_176 (by decide) rfl ?_
  have lp_178 : ∀ (n_ : Nat) (i : Int) (K2 : Nat → Int → Int), (0 ≤ i ∧ i ≤ 8) → (FR (fun a => a = 262) K M K2 M) → (K2 175 23 = 8 * (96 * i)) → (HR K2 262 0 (96 * i) (fun x => gB (fun j => 2 - (kgYs 0 (fun k => I 178 (0 + k))) (x / 96) j) 3 (x % 96))) → (K2 175 4 = 0) → ((8 - i).toNat) = n_ → AW l G M_Mo_dsaKeys P 178 [(4, vi i), (3, vi 3), (0, vr 175)] [] (sD h K2 M) := by
    intro n_
    induction n_ using Nat.strongRecOn with
    | _ n_ ih_178 =>
    intro i K2 hi F b1 hb c4 hm_178
    refine aw_iload d_Mo_dsaKeys_178 rfl ?_
    refine aw_aload_n d_Mo_dsaKeys_180 rfl rfl ?_
    refine ax_getIe (x := 4) d_Mo_dsaKeys_181 fd_Mo_226 (k_175 S) (Eq.trans (F.1 175 32 (by omega) (Or.inr (by decide))) (dr0_32 D)) ?_
    refine aw_aload_n d_Mo_dsaKeys_184 rfl rfl ?_
    refine ax_getIe (x := 4) d_Mo_dsaKeys_185 fd_Mo_223 (k_175 S) (Eq.trans (F.1 175 26 (by omega) (Or.inr (by decide))) (dr0_26 D)) ?_
    refine ax_iadd d_Mo_dsaKeys_188 ⟨(by omega), (by omega)⟩ ?_
    refine ax_ti (x := 8) (by decide) ?_
    refine aw_icmp_ge (tgt := 219) d_Mo_dsaKeys_189 (by decide) (fun c_189 => ?_) (fun c_189 => ?_)
    · skip
      refine aw_aload_n d_Mo_dsaKeys_219 rfl rfl ?_
      refine ax_getIe (x := 6144) d_Mo_dsaKeys_220 fd_Mo_216 (k_175 S) (b1.trans (by omega)) ?_
      refine aw_istore (lv' := [(4, vi 6144), (3, vi 3), (0, vr 175)]) d_Mo_dsaKeys_223 (by decide) rfl ?_
      refine aw_iconst d_Mo_dsaKeys_225 ⟨by decide, by decide⟩ ?_
      refine aw_istore (lv' := [(5, vi 0), (4, vi 6144), (3, vi 3), (0, vr 175)]) d_Mo_dsaKeys_226 (by decide) rfl ?_
      have lp_228 : ∀ (n_ : Nat) (j : Int) (K3 : Nat → Int → Int) (M3 : Nat → Int → Int), (0 ≤ j ∧ j ≤ 4) → (FR (fun a => a = 262 ∨ 205 ≤ a ∧ a < 209) K M K3 M3) → (HR K3 262 0 768 (fun x => gB (fun j => 2 - (kgYs 0 (fun k => I 178 (0 + k))) (x / 96) j) 3 (x % 96))) → (∀ m, 0 ≤ m → m < j → eqQ (K3 (205 + m.toNat)) (fwd rt ((kgY 0 (fun k => I 178 (0 + k))) m))) → (∀ m, 0 ≤ m → j ≤ m → m < 8 → eqQ (K3 (205 + m.toNat)) ((kgYs 0 (fun k => I 178 (0 + k))) m)) → (K3 175 4 = 0) → ((4 - j).toNat) = n_ → AW l G M_Mo_dsaKeys P 228 [(5, vi j), (4, vi 6144), (0, vr 175)] [] (sD h K3 M3) := by
        intro n_
        induction n_ using Nat.strongRecOn with
        | _ n_ ih_228 =>
        intro j K3 M3 hj F3 hb3 dn td c43 hm_228
        refine aw_iload d_Mo_dsaKeys_228 rfl ?_
        refine aw_aload_n d_Mo_dsaKeys_230 rfl rfl ?_
        refine ax_getIe (x := 4) d_Mo_dsaKeys_231 fd_Mo_226 (k_175 S) (Eq.trans (F3.1 175 32 (by omega) (Or.inr (by decide))) (dr0_32 D)) ?_
        refine aw_icmp_ge (tgt := 264) d_Mo_dsaKeys_234 (by decide) (fun c_234 => ?_) (fun c_234 => ?_)
        · skip
          refine aw_aload_n d_Mo_dsaKeys_264 rfl rfl ?_
          refine aw_iconst d_Mo_dsaKeys_265 ⟨by decide, by decide⟩ ?_
          refine ax_putI d_Mo_dsaKeys_266 fd_Mo_216 (k_175 S) (by decide) rfl ?_
          refine aw_iconst d_Mo_dsaKeys_269 ⟨by decide, by decide⟩ ?_
          refine aw_istore (lv' := [(5, vi 0), (4, vi 6144), (0, vr 175)]) d_Mo_dsaKeys_270 (by decide) rfl ?_
          refine aw_sub (lv' := [(5, vi 0), (4, vi 6144), (0, vr 175)]) (by simp) ?_
          exact kC0 S n0 (fR0.fr (fR0.fr R0 F3 (r := qN) (by intro a x y; exact ⟨fun z => z, by omega⟩) (by omega)) (FR.b0 (p := fun _ => False)) (by intro a x y; exact ⟨fun z => z, fun z => z⟩) (fun z => z)) ((D.fr F3 (by omega)).fr (FR.b0 (p := fun _ => False)) ⟨fun z => z, fun z => z, fun z => z⟩) ((hs.fr F3 (by omega) (by decide)).fr (L := M3) (L' := M3) (FR.b0 (p := fun _ => False)) (fun z => z) (by decide)) (hb3.fr (L := M3) (L' := M3) (FR.b0 (p := fun _ => False)) (fun z => z) (by decide)) (fun m a b x u v => by rw [a_up_ne (Or.inl (by omega))]; exact dn m a (by omega) x u v) (fun m a b x u v => by rw [a_up_ne (Or.inl (by omega))]; exact td _ (by omega) (by omega) (by omega) x u v) (by rw [a_up_ne (Or.inr (by decide))]; exact c43) (a_up_at.trans (by decide)) okS hP
        · skip
          refine aw_aload_n d_Mo_dsaKeys_237 rfl rfl ?_
          refine ax_getR (b := 204) d_Mo_dsaKeys_238 fd_Mo_76 (k_175 S) (r_175_28 S) ?_
          refine aw_iload d_Mo_dsaKeys_241 rfl ?_
          refine ax_aald (b := 205 + j.toNat) d_Mo_dsaKeys_243 ⟨by rw [(k_204 S)]; decide, by rw [(k_204 S)]; decide⟩ (by omega) (by rw [n_204 S]; omega) (g_204 S (by omega) (by omega)) ?_
          refine ax_S (st := []) (as := [vr (205 + j.toNat)]) (v := none) (h' := sD h (rowTo K3 (205 + j.toNat) 256 (fun x => (K3 (205 + j.toNat) x + 8380417) % 8380417)) M3) d_Mo_dsaKeys_244 cs_Mo_dsaKeys_244 (c_Mo_positive ⟨kr_204 S (by omega), by omega, nr_204 S (by omega)⟩ (fun x u v => by rw [td j hj.1 (Int.le_refl _) (by omega) x u v]; have q_ := kgYs_b (s := 0) (g := (fun k => I 178 (0 + k))) (m := j) (j := x); rw [show pE 0 = 2 from rfl] at q_; omega)) rfl rfl rfl ?_
          show AW l G M_Mo_dsaKeys P 247 [(5, vi j), (4, vi 6144), (0, vr 175)] [] (sD h (rowTo K3 (205 + j.toNat) 256 (fun x => (K3 (205 + j.toNat) x + 8380417) % 8380417)) M3)
          refine aw_aload_n d_Mo_dsaKeys_247 rfl rfl ?_
          refine aw_aload_n d_Mo_dsaKeys_248 rfl rfl ?_
          refine ax_getR (b := 204) d_Mo_dsaKeys_249 fd_Mo_76 (k_175 S) (r_175_28 S) ?_
          refine aw_iload d_Mo_dsaKeys_252 rfl ?_
          refine ax_aald (b := 205 + j.toNat) d_Mo_dsaKeys_254 ⟨by rw [(k_204 S)]; decide, by rw [(k_204 S)]; decide⟩ (by omega) (by rw [n_204 S]; omega) (g_204 S (by omega) (by omega)) ?_
          refine ax_Vr (st := []) (as := [vr (205 + j.toNat)]) (b := 175) d_Mo_dsaKeys_255 cs_Mo_dsaKeys_255 (k_175 S) (c_Mo_evaluate S ⟨kr_204 S (by omega), by omega, nr_204 S (by omega)⟩ (by omega) (fun x u v => by rw [rowTo_in u v]; omega) (fun x u v => by rw [rowTo_ne (by omega)]; exact (D.fr F3 (by omega)).2.2 x u v)) rfl rfl rfl (fun u_255 q_255 => ?_)
          have hl := q_255
          show AW l G M_Mo_dsaKeys P 258 [(5, vi j), (4, vi 6144), (0, vr 175)] [] (sD h (rowTo (rowTo K3 (205 + j.toNat) 256 (fun x => (K3 (205 + j.toNat) x + 8380417) % 8380417)) (205 + j.toNat) 256 (eva ((rowTo K3 (205 + j.toNat) 256 (fun x => (K3 (205 + j.toNat) x + 8380417) % 8380417)) (205 + j.toNat)))) u_255)
          refine ax_iinc (lv' := [(5, vi (j + 1)), (4, vi 6144), (0, vr 175)]) d_Mo_dsaKeys_258 rfl (by decide) ⟨(by omega), (by omega)⟩ rfl ?_
          refine aw_goto (tgt := 228) d_Mo_dsaKeys_261 (by decide) ?_
          exact ih_228 _ (by omega) (j + 1) (rowTo (rowTo K3 (205 + j.toNat) 256 (fun x => (K3 (205 + j.toNat) x + 8380417) % 8380417)) (205 + j.toNat) 256 (eva ((rowTo K3 (205 + j.toNat) 256 (fun x => (K3 (205 + j.toNat) x + 8380417) % 8380417)) (205 + j.toNat)))) u_255 (by omega) ((F3.tr (FR.row (p := fun a => a = 262 ∨ 205 ≤ a ∧ a < 209) (by omega) (fun _ _ _ => rfl)) (fun a x => ⟨x, x⟩)).tr (FR.row (p := fun a => a = 262 ∨ 205 ≤ a ∧ a < 209) (by omega) hl) (fun a x => ⟨x, x⟩)) ((hb3.fr (L := M3) (L' := M3) (FR.row (p := fun a => a = 205 + j.toNat) rfl (fun _ _ _ => rfl)) (by omega) (by decide)).fr (L := M3) (L' := u_255) (FR.row (p := fun a => a = 205 + j.toNat) rfl hl) (by omega) (by decide)) (fun m a b x u v => by by_cases z : m = j; exact (by rw [z, rowTo_in u v, fwd_eva u v]; exact eva_cq (fun t ht => cq.e (by rw [rowTo_in (by omega) (by omega), td j hj.1 (Int.le_refl _) (by omega) t (by omega) (by omega), kgY_Ys, Int.add_emod_right]))); exact (by rw [rowTo_ne (by omega), rowTo_ne (by omega)]; exact dn m a (by omega) x u v)) (fun m a b c x u v => by rw [rowTo_ne (by omega), rowTo_ne (by omega)]; exact td m a (by omega) c x u v) (by rw [rowTo_ne (by omega), rowTo_ne (by omega)]; exact c43) rfl
      skip
      refine aw_sub (lv' := [(5, vi 0), (4, vi 6144), (0, vr 175)]) (by simp) ?_
      exact lp_228 _ 0 K2 M (by omega) (F.mono (by intro a x; omega)) (by rw [show (768 : Int) = 96 * i by omega]; exact hb) (fun m a b => by omega) (fun m a b c x y z => by rw [F.1 _ _ (by omega) (Or.inl (by omega))]; exact hY m a c x y z) (c4) rfl
    · skip
      refine aw_aload_n d_Mo_dsaKeys_192 rfl rfl ?_
      refine aw_aload_n d_Mo_dsaKeys_193 rfl rfl ?_
      refine ax_getR (b := 262) d_Mo_dsaKeys_194 fd_Mo_84 (k_175 S) (r_175_30 S) ?_
      refine aw_iconst d_Mo_dsaKeys_197 ⟨by decide, by decide⟩ ?_
      refine aw_aload_n d_Mo_dsaKeys_198 rfl rfl ?_
      refine ax_getR (b := 204) d_Mo_dsaKeys_199 fd_Mo_76 (k_175 S) (r_175_28 S) ?_
      refine aw_iload d_Mo_dsaKeys_202 rfl ?_
      refine ax_aald (b := 205 + i.toNat) d_Mo_dsaKeys_204 ⟨by rw [(k_204 S)]; decide, by rw [(k_204 S)]; decide⟩ (by omega) (by rw [n_204 S]; omega) (g_204 S (by omega) (by omega)) ?_
      refine aw_aload_n d_Mo_dsaKeys_205 rfl rfl ?_
      refine ax_getIe (x := 2) d_Mo_dsaKeys_206 fd_Mo_229 (k_175 S) (Eq.trans (F.1 175 33 (by omega) (Or.inr (by decide))) (dr0_33 D)) ?_
      refine aw_iload_n d_Mo_dsaKeys_209 rfl rfl ?_
      refine ax_Vr (st := []) (as := [vr 262, vi 0, vr (205 + i.toNat), vi 2, vi 3]) (b := 175) d_Mo_dsaKeys_210 cs_Mo_dsaKeys_210 (k_175 S) (c_Mo_pack (c := 96 * i) (d := 3) S ⟨k_262 S, by decide, by decide⟩ ⟨kr_204 S (by omega), by omega, nr_204 S (by omega)⟩ (by omega) (by decide) (by omega) (fun j x y => by rw [F.1 _ _ (by omega) (Or.inl (by omega)), hY i hi.1 (by omega) j x y]; have q_ := kgYs_b (s := 0) (g := (fun k => I 178 (0 + k))) (m := i) (j := j); rw [show pE 0 = 2 from rfl] at q_; omega) (by decide) (by rw [n_262 S]; omega)) rfl rfl rfl (fun u_210 q_210 => ?_)
      obtain ⟨q1, q2, q3⟩ := q_210
      show AW l G M_Mo_dsaKeys P 213 [(4, vi i), (3, vi 3), (0, vr 175)] [] (sD h u_210 M)
      refine ax_iinc (lv' := [(4, vi (i + 1)), (3, vi 3), (0, vr 175)]) d_Mo_dsaKeys_213 rfl (by decide) ⟨(by omega), (by omega)⟩ rfl ?_
      refine aw_goto (tgt := 178) d_Mo_dsaKeys_216 (by decide) ?_
      exact ih_178 _ (by omega) (i + 1) u_210 (by omega) (F.tr (FR.bits (p := fun a => a = 262) q1 rfl) (fun a x => ⟨x, x⟩)) (by omega) (fun z x y => by by_cases v : z < 96 * i; exact (by rw [q1 262 _ (Or.inr (by omega)) (Or.inl (by decide))]; exact hb z x v); exact (by have y2 := q3 (z - 96 * i) (by omega) (by omega); rw [show (0 + 96 * i + (z - 96 * i) : Int) = 0 + z by omega] at y2; rw [y2]; show _ = gB (fun j => 2 - (kgYs 0 (fun k => I 178 (0 + k))) (z / 96) j) 3 (z % 96); rw [show z / 96 = i by omega, show z % 96 = z - 96 * i by omega]; exact congrFun (gB_congr (fun j u v => by rw [F.1 _ _ (by omega) (Or.inl (by omega)), hY i hi.1 (by omega) j u v])) _)) ((q1 175 4 (Or.inl (by decide)) (Or.inr (by decide))).trans c4) rfl
  skip
  exact lp_178 _ 0 (a_up K 175 23 0) (by omega) (FR.b0) (by rw [a_up_at]; rfl) (fun z x y => by omega) (by rw [a_up_ne (Or.inr (by decide))]; exact h4) rfl
set_option maxHeartbeats 800000 in
set_option maxRecDepth 100000 in
theorem c_Mo_dsaKeys0 {l : Launch} {G : a_G} {h : Hp} {I L : Nat → Int → Int} (S : Shp h) (RS : RSt I L) : AW l G M_Mo_dsaKeys (RsR h I L (cKeys 0 (I 186 0) (fun k => I 178 (0 + k))) (fun a => a = 179 ∨ a = 180 ∨ a = 186) (fun v I' _ => v = sSec 0 ∧ ((∀ j, j ≠ 1 → j ≠ 2 → I' 186 j = I 186 j) ∧ I' 186 1 = 32 + 320 * pK 0 ∧ I' 186 2 = sSec 0) ∧ (HR I' 179 0 (32 + 320 * pK 0) (kgPk 0 (fun k => I 178 (0 + k))) ∧ rng (I 179) (I' 179)) ∧ HR I' 180 0 (sSec 0) (kgSk 0 (fun k => I 178 (0 + k))) ∧ rng (I 180) (I' 180))) 0 (a_ar 0 [vr 175, vi 0]) [] (sD h I L) := by
  suffices key : ∀ P : a_R → Hp → Prop, (∀ r_ h2_, RsR h I L (cKeys 0 (I 186 0) (fun k => I 178 (0 + k))) (fun a => a = 179 ∨ a = 180 ∨ a = 186) (fun v I' _ => v = sSec 0 ∧ ((∀ j, j ≠ 1 → j ≠ 2 → I' 186 j = I 186 j) ∧ I' 186 1 = 32 + 320 * pK 0 ∧ I' 186 2 = sSec 0) ∧ (HR I' 179 0 (32 + 320 * pK 0) (kgPk 0 (fun k => I 178 (0 + k))) ∧ rng (I 179) (I' 179)) ∧ HR I' 180 0 (sSec 0) (kgSk 0 (fun k => I 178 (0 + k))) ∧ rng (I 180) (I' 180)) r_ h2_ → P r_ h2_) → AW l G M_Mo_dsaKeys P 0 [(0, vr 175), (1, vi 0)] [] (sD h I L) from key _ (fun _ _ q => q)
  intro P hP
  refine aw_aload_n d_Mo_dsaKeys_0 rfl rfl ?_
  refine aw_iload_n d_Mo_dsaKeys_1 rfl rfl ?_
  refine aw_iconst d_Mo_dsaKeys_2 ⟨by decide, by decide⟩ ?_
  refine aw_iconst d_Mo_dsaKeys_3 ⟨by decide, by decide⟩ ?_
  refine ax_S (st := [vr 175]) (as := [vi 0, vi 0, vi 2]) (v := some (vi 1)) (h' := sD h I L) d_Mo_dsaKeys_4 cs_Mo_dsaKeys_4 (c_in1 (by decide)) rfl rfl rfl ?_
  show AW l G M_Mo_dsaKeys P 7 [(0, vr 175), (1, vi 0)] [vi 1, vr 175] (sD h I L)
  refine aw_iconst d_Mo_dsaKeys_7 ⟨by decide, by decide⟩ ?_
  refine ax_V (st := []) (as := [vi 1, vi 1]) (b := 175) (v := some (vi 1)) (h' := sD h (a_up I 175 4 0) L) d_Mo_dsaKeys_8 cs_Mo_dsaKeys_8 (k_175 S) (c_good1 S (rfl)) rfl rfl rfl ?_
  show AW l G M_Mo_dsaKeys P 11 [(0, vr 175), (1, vi 0)] [vi 1] (sD h (a_up I 175 4 0) L)
  refine aw_if_eq (tgt := 38) d_Mo_dsaKeys_11 (by decide) (fun c_11 => False.elim (by omega)) (fun c_11 => ?_)
  refine aw_aload_n d_Mo_dsaKeys_14 rfl rfl ?_
  refine aw_aload_n d_Mo_dsaKeys_15 rfl rfl ?_
  refine ax_getR (b := 186) d_Mo_dsaKeys_16 fd_Mo_18 (k_175 S) (r_175_2 S) ?_
  refine aw_iconst d_Mo_dsaKeys_19 ⟨by decide, by decide⟩ ?_
  refine ax_ialde (x := I 186 0) d_Mo_dsaKeys_20 (k_186 S) (by omega) (by rw [n_186 S]; omega) (Eq.trans (a_up_ne (Or.inl (by decide))) (rfl)) ?_
  refine aw_bipush d_Mo_dsaKeys_21 ⟨by decide, by decide⟩ (by decide) ?_
  refine aw_icmp_ne (tgt := 30) d_Mo_dsaKeys_23 (by decide) (fun c_23 => ?_) (fun c_23 => ?_)
  · skip
    refine aw_iconst d_Mo_dsaKeys_30 ⟨by decide, by decide⟩ ?_
    refine aw_iconst d_Mo_dsaKeys_31 ⟨by decide, by decide⟩ ?_
    refine ax_V (st := []) (as := [vi 0, vi 2]) (b := 175) (v := some (vi 0)) (h' := sD h (a_up I 175 4 2) L) d_Mo_dsaKeys_32 cs_Mo_dsaKeys_32 (k_175 S) (c_good0 S (by rw [a_up_up])) rfl rfl rfl ?_
    show AW l G M_Mo_dsaKeys P 35 [(0, vr 175), (1, vi 0)] [vi 0] (sD h (a_up I 175 4 2) L)
    refine aw_if_ne (tgt := 40) d_Mo_dsaKeys_35 (by decide) (fun c_35 => False.elim (by omega)) (fun c_35 => ?_)
    refine aw_iconst d_Mo_dsaKeys_38 ⟨by decide, by decide⟩ ?_
    exact aw_iret d_Mo_dsaKeys_39 rfl (hP _ _ (rsNo 0 2 (cKeys_2 (by decide) (by omega)) (by decide) a_up_at (fR0.fr fR0.rfl' (FR.c0 (p := fun _ => False)) (by intro a x y; exact ⟨fun z => z, fun z => z⟩) (fun z => z))))
  · skip
    refine aw_iconst d_Mo_dsaKeys_26 ⟨by decide, by decide⟩ ?_
    refine aw_goto (tgt := 31) d_Mo_dsaKeys_27 (by decide) ?_
    refine aw_iconst d_Mo_dsaKeys_31 ⟨by decide, by decide⟩ ?_
    refine ax_V (st := []) (as := [vi 1, vi 2]) (b := 175) (v := some (vi 1)) (h' := sD h (a_up I 175 4 0) L) d_Mo_dsaKeys_32 cs_Mo_dsaKeys_32 (k_175 S) (c_good1 S (by rw [a_up_up])) rfl rfl rfl ?_
    show AW l G M_Mo_dsaKeys P 35 [(0, vr 175), (1, vi 0)] [vi 1] (sD h (a_up I 175 4 0) L)
    refine aw_if_ne (tgt := 40) d_Mo_dsaKeys_35 (by decide) (fun c_35 => ?_) (fun c_35 => False.elim (by omega))
    refine aw_aload_n d_Mo_dsaKeys_40 rfl rfl ?_
    refine aw_iload_n d_Mo_dsaKeys_41 rfl rfl ?_
    refine ax_Vr (st := []) (as := [vi 0]) (b := 175) d_Mo_dsaKeys_42 cs_Mo_dsaKeys_42 (k_175 S) (c_Mo_dsa0 S) rfl rfl rfl (fun u_42 q_42 => ?_)
    obtain ⟨d1, d2, d3⟩ := q_42
    have n0 : I 186 0 = 32 := by omega
    have e0 : ∀ a j, (a < 175 ∨ 176 ≤ a ∧ a ≤ 202 ∨ 204 ≤ a) → u_42 a j = I a j := fun a j x => (d1 a j (by omega) (Or.inl (by omega)) (Or.inl (by omega)) (Or.inl (by omega)) (Or.inl (by omega)) (Or.inl (by omega)) (Or.inl (by omega)) (Or.inl (by omega)) (Or.inl (by omega)) (Or.inl (by omega))).trans (a_up_ne (Or.inl (by omega)))
    have R00 : fR0 qN I L u_42 L := ⟨fun a j x _ => e0 a j (by omega), (d1 175 3 (by decide) (Or.inr (by decide)) (Or.inr (by decide)) (Or.inr (by decide)) (Or.inr (by decide)) (Or.inr (by decide)) (Or.inr (by decide)) (Or.inr (by decide)) (Or.inr (by decide)) (Or.inr (by decide))).trans (a_up_ne (Or.inr (by decide))), fun _ _ _ => rfl⟩
    have D0 : RD u_42 L 0 := ⟨RS.of (fun j => e0 193 j (by omega)) (fun _ => rfl), d2, d3⟩
    have RS := D0.1
    have c40 : u_42 175 4 = 0 := (d1 175 4 (by decide) (Or.inr (by decide)) (Or.inr (by decide)) (Or.inr (by decide)) (Or.inr (by decide)) (Or.inr (by decide)) (Or.inr (by decide)) (Or.inr (by decide)) (Or.inr (by decide)) (Or.inr (by decide))).trans a_up_at
    show AW l G M_Mo_dsaKeys P 45 [(0, vr 175), (1, vi 0)] [] (sD h u_42 L)
    refine aw_aload_n d_Mo_dsaKeys_45 rfl rfl ?_
    refine aw_bipush d_Mo_dsaKeys_46 ⟨by decide, by decide⟩ (by decide) ?_
    refine ax_Vr (st := []) (as := [vi 12]) (b := 175) d_Mo_dsaKeys_48 cs_Mo_dsaKeys_48 (k_175 S) (c_Mo_begin12 S) rfl rfl rfl (fun u_48 q_48 => ?_)
    obtain ⟨I1, L1⟩ := u_48
    obtain ⟨F1, e1, k1⟩ := q_48
    dsimp only at F1 e1 k1
    show AW l G M_Mo_dsaKeys P 51 [(0, vr 175), (1, vi 0)] [] (sD h I1 L1)
    refine aw_aload_n d_Mo_dsaKeys_51 rfl rfl ?_
    refine aw_aload_n d_Mo_dsaKeys_52 rfl rfl ?_
    refine ax_getR (b := 177) d_Mo_dsaKeys_53 fd_Mo_15 (k_175 S) (r_175_1 S) ?_
    refine aw_iconst d_Mo_dsaKeys_56 ⟨by decide, by decide⟩ ?_
    refine ax_aald (b := 178) d_Mo_dsaKeys_57 ⟨by rw [(k_177 S)]; decide, by rw [(k_177 S)]; decide⟩ (by omega) (by rw [n_177 S]; omega) (g_177 S (j := 0) (by decide) (by decide)) ?_
    refine aw_iconst d_Mo_dsaKeys_58 ⟨by decide, by decide⟩ ?_
    refine aw_bipush d_Mo_dsaKeys_59 ⟨by decide, by decide⟩ (by decide) ?_
    refine ax_Vr (st := []) (as := [vr 178, vi 0, vi 32]) (b := 175) d_Mo_dsaKeys_61 cs_Mo_dsaKeys_61 (k_175 S) (c_Mo_put3 S (RS.rf F1) (by omega) (by rw [e1]; exact spStart_lt (by decide) (by decide)) ⟨k_178 S, by decide, by decide⟩ (by rw [n_178 S]; decide)) rfl rfl rfl (fun u_61 q_61 => ?_)
    obtain ⟨I2, L2⟩ := u_61
    obtain ⟨F2, e2, k2⟩ := q_61
    dsimp only at F2 e2 k2
    show AW l G M_Mo_dsaKeys P 64 [(0, vr 175), (1, vi 0)] [] (sD h I2 L2)
    refine aw_aload_n d_Mo_dsaKeys_64 rfl rfl ?_
    refine aw_aload_n d_Mo_dsaKeys_65 rfl rfl ?_
    refine ax_getIe (x := 4) d_Mo_dsaKeys_66 fd_Mo_223 (k_175 S) (Eq.trans ((F1.tr F2).1 175 26 (Or.inr (by decide))) (dr0_26 D0)) ?_
    refine ax_Vr (st := []) (as := [vi 4]) (b := 175) d_Mo_dsaKeys_69 cs_Mo_dsaKeys_69 (k_175 S) (c_Mo_put1 S ((RS.rf F1).rf F2) (by omega) (by rw [e2, e1]; exact spPart_lt (spStart_lt (by decide) (by decide)) _ _)) rfl rfl rfl (fun u_69 q_69 => ?_)
    obtain ⟨I3, L3⟩ := u_69
    obtain ⟨F3, e3, k3⟩ := q_69
    dsimp only at F3 e3 k3
    show AW l G M_Mo_dsaKeys P 72 [(0, vr 175), (1, vi 0)] [] (sD h I3 L3)
    refine aw_aload_n d_Mo_dsaKeys_72 rfl rfl ?_
    refine aw_aload_n d_Mo_dsaKeys_73 rfl rfl ?_
    refine ax_getIe (x := 4) d_Mo_dsaKeys_74 fd_Mo_226 (k_175 S) (Eq.trans (((F1.tr F2).tr F3).1 175 32 (Or.inr (by decide))) (dr0_32 D0)) ?_
    refine ax_Vr (st := []) (as := [vi 4]) (b := 175) d_Mo_dsaKeys_77 cs_Mo_dsaKeys_77 (k_175 S) (c_Mo_put1 S (((RS.rf F1).rf F2).rf F3) (by omega) (by rw [e3, e2, e1]; exact spTake_lt (spPart_lt (spStart_lt (by decide) (by decide)) _ _) _)) rfl rfl rfl (fun u_77 q_77 => ?_)
    obtain ⟨I4, L4⟩ := u_77
    obtain ⟨F4, e4, k4⟩ := q_77
    dsimp only at F4 e4 k4
    show AW l G M_Mo_dsaKeys P 80 [(0, vr 175), (1, vi 0)] [] (sD h I4 L4)
    have eS : spTurn (spR I4 L4) = ksS (fun k => I 178 (0 + k)) 4 4 := by rw [e4, e3, e2, e1, show (fun k => I1 178 (0 + k)) = (fun k => I 178 (0 + k)) from funext (fun z => (F1.1 178 _ (Or.inl (by decide))).trans (e0 178 _ (by omega)))]; rfl
    refine aw_aload_n d_Mo_dsaKeys_80 rfl rfl ?_
    refine aw_aload_n d_Mo_dsaKeys_81 rfl rfl ?_
    refine ax_getR (b := 202) d_Mo_dsaKeys_82 fd_Mo_68 (k_175 S) (r_175_25 S) ?_
    refine aw_iconst d_Mo_dsaKeys_85 ⟨by decide, by decide⟩ ?_
    refine aw_sipush d_Mo_dsaKeys_86 ⟨by decide, by decide⟩ (by decide) ?_
    refine ax_Vr (st := []) (as := [vr 202, vi 0, vi 128]) (b := 175) d_Mo_dsaKeys_89 cs_Mo_dsaKeys_89 (k_175 S) (c_Mo_give S ((((RS.rf F1).rf F2).rf F3).rf F4) (by omega) (by rw [e4, e3, e2, e1]; exact (spTake_lt (spTake_lt (spPart_lt (spStart_lt (by decide) (by decide)) _ _) _) _).1) ⟨k_202 S, by decide, by decide, by decide⟩ (by rw [n_202 S]; decide)) rfl rfl rfl (fun u_89 q_89 => ?_)
    obtain ⟨I5, L5⟩ := u_89
    obtain ⟨F5, f5, e5, k5⟩ := q_89
    dsimp only at F5 f5 e5 k5
    rw [eS] at F5
    have H5 : HR I5 202 0 128 (kgSd 0 (fun k => I 178 (0 + k))) := HR.give F5 (by decide)
    have G5 : FR (fun a => a = 202) u_42 L I5 L5 := ((((F1.tr F2).tr F3).tr F4).fr (p := fun a => a = 202)).tr (FR.give (p := fun a => a = 202) F5 f5 rfl) (fun a x => ⟨x, x⟩)
    have c45 : I5 175 4 = 0 := by rw [F5 175 4 (Or.inr (by decide)), putRow_ne (by decide), (((F1.tr F2).tr F3).tr F4).1 175 4 (Or.inr (by decide))]; exact c40
    show AW l G M_Mo_dsaKeys P 92 [(0, vr 175), (1, vi 0)] [] (sD h I5 L5)
    refine aw_iconst d_Mo_dsaKeys_92 ⟨by decide, by decide⟩ ?_
    refine aw_istore_n (lv' := [(2, vi 1), (0, vr 175), (1, vi 0)]) d_Mo_dsaKeys_93 rfl (by decide) rfl ?_
    refine aw_iconst d_Mo_dsaKeys_94 ⟨by decide, by decide⟩ ?_
    refine aw_istore_n (lv' := [(3, vi 0), (2, vi 1), (0, vr 175), (1, vi 0)]) d_Mo_dsaKeys_95 rfl (by decide) rfl ?_
    have lp_96 : ∀ (n_ : Nat) (i : Int) (fd : Int) (K : Nat → Int → Int) (M : Nat → Int → Int), (0 ≤ i ∧ i ≤ 8) → (FR (fun a => a = 202 ∨ 205 ≤ a ∧ a ≤ 252) u_42 L K M) → (HR K 202 0 128 (kgSd 0 (fun k => I 178 (0 + k)))) → ((fd = 0 ∨ fd = 1) ∧ (fd = 1 ↔ ∀ m, 0 ≤ m → m < i → (sml 2 (fun x => (kgSd 0 (fun k => I 178 (0 + k))) (32 + x)) m).2.1 = 256)) → (∀ m, 0 ≤ m → m < i → (sml 2 (fun x => (kgSd 0 (fun k => I 178 (0 + k))) (32 + x)) m).2.1 = 256 → eqQ (K (205 + m.toNat)) ((kgYs 0 (fun k => I 178 (0 + k))) m)) → (K 175 4 = 0) → ((8 - i).toNat) = n_ → AW l G M_Mo_dsaKeys P 96 [(3, vi i), (2, vi fd), (1, vi 0), (0, vr 175)] [] (sD h K M) := by
      intro n_
      induction n_ using Nat.strongRecOn with
      | _ n_ ih_96 =>
      intro i fd K M hi F hs hfd rw_ c4 hm_96
      refine aw_iload_n d_Mo_dsaKeys_96 rfl rfl ?_
      refine aw_aload_n d_Mo_dsaKeys_97 rfl rfl ?_
      refine ax_getIe (x := 4) d_Mo_dsaKeys_98 fd_Mo_226 (k_175 S) (Eq.trans (F.1 175 32 (by omega) (Or.inr (by decide))) (dr0_32 D0)) ?_
      refine aw_aload_n d_Mo_dsaKeys_101 rfl rfl ?_
      refine ax_getIe (x := 4) d_Mo_dsaKeys_102 fd_Mo_223 (k_175 S) (Eq.trans (F.1 175 26 (by omega) (Or.inr (by decide))) (dr0_26 D0)) ?_
      refine ax_iadd d_Mo_dsaKeys_105 ⟨(by omega), (by omega)⟩ ?_
      refine ax_ti (x := 8) (by decide) ?_
      refine aw_icmp_ge (tgt := 145) d_Mo_dsaKeys_106 (by decide) (fun c_106 => ?_) (fun c_106 => ?_)
      · skip
        rcases hfd.1 with fz | fz
        · subst fz
          refine aw_aload_n d_Mo_dsaKeys_145 rfl rfl ?_
          refine aw_iload_n d_Mo_dsaKeys_146 rfl rfl ?_
          refine aw_iconst d_Mo_dsaKeys_147 ⟨by decide, by decide⟩ ?_
          refine ax_V (st := []) (as := [vi 0, vi 3]) (b := 175) (v := some (vi 0)) (h' := sD h (a_up K 175 4 3) M) d_Mo_dsaKeys_148 cs_Mo_dsaKeys_148 (k_175 S) (c_good0 S rfl) rfl rfl rfl ?_
          show AW l G M_Mo_dsaKeys P 151 [(3, vi i), (2, vi 0), (1, vi 0), (0, vr 175)] [vi 0] (sD h (a_up K 175 4 3) M)
          refine aw_if_ne (tgt := 156) d_Mo_dsaKeys_151 (by decide) (fun c_151 => False.elim (by omega)) (fun c_151 => ?_)
          refine aw_iconst d_Mo_dsaKeys_154 ⟨by decide, by decide⟩ ?_
          exact aw_iret d_Mo_dsaKeys_155 rfl (hP _ _ (rsNo 0 3 (cKeys_3 (by decide) n0 (fun z => by have y := hfd.2.2 (fun m a b => z.2 m a (by show m < 8; omega)); exact absurd y (by decide))) (by decide) a_up_at (fR0.fr (fR0.fr R00 F (r := qN) (by intro a x y; exact ⟨fun z => z, by omega⟩) (by omega)) (FR.c0 (p := fun _ => False)) (by intro a x y; exact ⟨fun z => z, fun z => z⟩) (fun z => z))))
        · subst fz
          refine aw_aload_n d_Mo_dsaKeys_145 rfl rfl ?_
          refine aw_iload_n d_Mo_dsaKeys_146 rfl rfl ?_
          refine aw_iconst d_Mo_dsaKeys_147 ⟨by decide, by decide⟩ ?_
          refine ax_V (st := []) (as := [vi 1, vi 3]) (b := 175) (v := some (vi 1)) (h' := sD h (a_up K 175 4 0) M) d_Mo_dsaKeys_148 cs_Mo_dsaKeys_148 (k_175 S) (c_good1 S rfl) rfl rfl rfl ?_
          show AW l G M_Mo_dsaKeys P 151 [(3, vi i), (2, vi 1), (1, vi 0), (0, vr 175)] [vi 1] (sD h (a_up K 175 4 0) M)
          refine aw_if_ne (tgt := 156) d_Mo_dsaKeys_151 (by decide) (fun c_151 => ?_) (fun c_151 => False.elim (by omega))
          refine aw_sub (lv' := [(0, vr 175)]) (by simp) ?_
          have oks := hfd.2.1 rfl
          exact kB0 S n0 (fR0.fr (fR0.fr R00 F (r := qN) (by intro a x y; exact ⟨fun z => z, by omega⟩) (by omega)) (FR.c0 (p := fun _ => False)) (by intro a x y; exact ⟨fun z => z, fun z => z⟩) (fun z => z)) ((D0.fr F (by omega)).fr (FR.c0 (p := fun _ => False)) ⟨fun z => z, fun z => z, fun z => z⟩) (hs.fr (L := M) (L' := M) (FR.c0 (p := fun _ => False)) (fun z => z) (by decide)) (fun m a b x u v => by rw [a_up_ne (Or.inl (by omega))]; exact rw_ m a (by omega) (oks m a (by omega)) x u v) a_up_at (fun m a b => oks m a (by have b2 : m < 8 := b; omega)) hP
      · skip
        refine aw_aload_n d_Mo_dsaKeys_109 rfl rfl ?_
        refine aw_aload_n d_Mo_dsaKeys_110 rfl rfl ?_
        refine ax_getR (b := 204) d_Mo_dsaKeys_111 fd_Mo_76 (k_175 S) (r_175_28 S) ?_
        refine aw_iload_n d_Mo_dsaKeys_114 rfl rfl ?_
        refine ax_aald (b := 205 + i.toNat) d_Mo_dsaKeys_115 ⟨by rw [(k_204 S)]; decide, by rw [(k_204 S)]; decide⟩ (by omega) (by rw [n_204 S]; omega) (g_204 S (by omega) (by omega)) ?_
        refine aw_aload_n d_Mo_dsaKeys_116 rfl rfl ?_
        refine ax_getR (b := 202) d_Mo_dsaKeys_117 fd_Mo_68 (k_175 S) (r_175_25 S) ?_
        refine aw_bipush d_Mo_dsaKeys_120 ⟨by decide, by decide⟩ (by decide) ?_
        refine aw_iload_n d_Mo_dsaKeys_122 rfl rfl ?_
        refine ax_Vr (st := []) (as := [vr (205 + i.toNat), vr 202, vi 32, vi i]) (b := 175) d_Mo_dsaKeys_123 cs_Mo_dsaKeys_123 (k_175 S) (by have z := c_Mo_sampleSmall (l := l) (G := G) (I := K) (L := M) (f := 205 + i.toNat) (r := 202) (pa := 32) (x := i) (e := 2) S (D0.fr F (by omega)).1 ⟨kr_204 S (by omega), by omega, nr_204 S (by omega)⟩ (by omega) ⟨k_202 S, by decide, by decide⟩ (by rw [n_202 S]; decide) (by omega) (by rw [F.1 175 33 (by omega) (Or.inr (by decide))]; exact dr0_33 D0); rw [sml_HR hs (kgSd_m _ _)] at z; exact z) rfl rfl rfl (fun u_123 q_123 => ?_)
        obtain ⟨I6, L6⟩ := u_123
        obtain ⟨f6, r6⟩ := q_123
        dsimp only at f6 r6 ⊢
        by_cases ok_123 : (sml 2 (fun x => (kgSd 0 (fun k => I 178 (0 + k))) (32 + x)) i).2.1 = 256
        · skip
          rw [if_pos ok_123]
          show AW l G M_Mo_dsaKeys P 126 [(3, vi i), (2, vi fd), (1, vi 0), (0, vr 175)] [vi 1] (sD h I6 L6)
          refine aw_if_eq (tgt := 137) d_Mo_dsaKeys_126 (by decide) (fun c_126 => False.elim (by omega)) (fun c_126 => ?_)
          refine aw_iload_n d_Mo_dsaKeys_129 rfl rfl ?_
          refine aw_if_eq (tgt := 137) d_Mo_dsaKeys_130 (by decide) (fun c_130 => ?_) (fun c_130 => ?_)
          · skip
            refine aw_iconst d_Mo_dsaKeys_137 ⟨by decide, by decide⟩ ?_
            refine aw_istore_n (lv' := [(2, vi 0), (3, vi i), (1, vi 0), (0, vr 175)]) d_Mo_dsaKeys_138 rfl (by decide) rfl ?_
            refine ax_iinc (lv' := [(3, vi (i + 1)), (2, vi 0), (1, vi 0), (0, vr 175)]) d_Mo_dsaKeys_139 rfl (by decide) ⟨(by omega), (by omega)⟩ rfl ?_
            refine aw_goto (tgt := 96) d_Mo_dsaKeys_142 (by decide) ?_
            exact ih_96 _ (by omega) (i + 1) 0 I6 L6 (by omega) (F.tr (FR.smp (p := fun a => a = 202 ∨ 205 ≤ a ∧ a ≤ 252) f6 (by omega)) (fun a x => ⟨x, x⟩)) (hs.fr (FR.smp (p := fun a => a = 205 + i.toNat) f6 rfl) (by omega) (by decide)) (⟨Or.inl rfl, fun z => absurd z (by decide), fun z => by first | exact absurd (z i hi.1 (by omega)) ok_123 | (have := hfd.2.2 (fun m a b => z m a (by omega)); omega)⟩) (fun m a b y => by by_cases z : m = i; exact (by rw [z] at y ⊢; exact fun x u v => r6 x u (by rw [y]; exact v)); exact (fun x u v => by rw [f6.1 _ x (Or.inl (by omega)) (by omega)]; exact rw_ m a (by omega) y x u v)) (by rw [f6.1 175 4 (Or.inr (by decide)) (by omega)]; exact c4) rfl
          · skip
            refine aw_iconst d_Mo_dsaKeys_133 ⟨by decide, by decide⟩ ?_
            refine aw_goto (tgt := 138) d_Mo_dsaKeys_134 (by decide) ?_
            refine aw_istore_n (lv' := [(2, vi 1), (3, vi i), (1, vi 0), (0, vr 175)]) d_Mo_dsaKeys_138 rfl (by decide) rfl ?_
            refine ax_iinc (lv' := [(3, vi (i + 1)), (2, vi 1), (1, vi 0), (0, vr 175)]) d_Mo_dsaKeys_139 rfl (by decide) ⟨(by omega), (by omega)⟩ rfl ?_
            refine aw_goto (tgt := 96) d_Mo_dsaKeys_142 (by decide) ?_
            exact ih_96 _ (by omega) (i + 1) 1 I6 L6 (by omega) (F.tr (FR.smp (p := fun a => a = 202 ∨ 205 ≤ a ∧ a ≤ 252) f6 (by omega)) (fun a x => ⟨x, x⟩)) (hs.fr (FR.smp (p := fun a => a = 205 + i.toNat) f6 rfl) (by omega) (by decide)) (⟨Or.inr rfl, fun _ m a b => by by_cases z : m = i; exact (by rw [z]; exact ok_123); exact hfd.2.1 (by omega) m a (by omega), fun _ => rfl⟩) (fun m a b y => by by_cases z : m = i; exact (by rw [z] at y ⊢; exact fun x u v => r6 x u (by rw [y]; exact v)); exact (fun x u v => by rw [f6.1 _ x (Or.inl (by omega)) (by omega)]; exact rw_ m a (by omega) y x u v)) (by rw [f6.1 175 4 (Or.inr (by decide)) (by omega)]; exact c4) rfl
        · skip
          rw [if_neg ok_123]
          show AW l G M_Mo_dsaKeys P 126 [(3, vi i), (2, vi fd), (1, vi 0), (0, vr 175)] [vi 0] (sD h I6 L6)
          refine aw_if_eq (tgt := 137) d_Mo_dsaKeys_126 (by decide) (fun c_126 => ?_) (fun c_126 => False.elim (by omega))
          refine aw_iconst d_Mo_dsaKeys_137 ⟨by decide, by decide⟩ ?_
          refine aw_istore_n (lv' := [(2, vi 0), (3, vi i), (1, vi 0), (0, vr 175)]) d_Mo_dsaKeys_138 rfl (by decide) rfl ?_
          refine ax_iinc (lv' := [(3, vi (i + 1)), (2, vi 0), (1, vi 0), (0, vr 175)]) d_Mo_dsaKeys_139 rfl (by decide) ⟨(by omega), (by omega)⟩ rfl ?_
          refine aw_goto (tgt := 96) d_Mo_dsaKeys_142 (by decide) ?_
          exact ih_96 _ (by omega) (i + 1) 0 I6 L6 (by omega) (F.tr (FR.smp (p := fun a => a = 202 ∨ 205 ≤ a ∧ a ≤ 252) f6 (by omega)) (fun a x => ⟨x, x⟩)) (hs.fr (FR.smp (p := fun a => a = 205 + i.toNat) f6 rfl) (by omega) (by decide)) (⟨Or.inl rfl, fun z => absurd z (by decide), fun z => by first | exact absurd (z i hi.1 (by omega)) ok_123 | (have := hfd.2.2 (fun m a b => z m a (by omega)); omega)⟩) (fun m a b y => by by_cases z : m = i; exact (by rw [z] at y ⊢; exact fun x u v => r6 x u (by rw [y]; exact v)); exact (fun x u v => by rw [f6.1 _ x (Or.inl (by omega)) (by omega)]; exact rw_ m a (by omega) y x u v)) (by rw [f6.1 175 4 (Or.inr (by decide)) (by omega)]; exact c4) rfl
    skip
    refine aw_sub (lv' := [(3, vi 0), (2, vi 1), (1, vi 0), (0, vr 175)]) (by simp) ?_
    exact lp_96 _ 0 1 I5 L5 (by omega) (G5.mono (by intro a x; omega)) (H5) (⟨Or.inr rfl, fun _ m a b => by omega, fun _ => rfl⟩) (fun m a b => by omega) (c45) rfl
set_option maxHeartbeats 2000000 in
set_option maxRecDepth 100000 in
theorem kD1 {l : Launch} {G : a_G} {P : a_R → Hp → Prop} {h : Hp} {I L K M : Nat → Int → Int} (S : Shp h) (n0 : I 186 0 = 32) (R0 : fR0 qN I L K M) (D : RD K M 1) (hs : HR K 202 0 128 (kgSd 1 (fun k => I 178 (0 + k)))) (hb : HR K 262 0 1408 (fun x => gB (fun j => 4 - (kgYs 1 (fun k => I 178 (0 + k))) (x / 128) j) 4 (x % 128))) (ho : HR K 263 0 1920 (fun x => gB (fun j => ((kgT 1 (fun k => I 178 (0 + k))) (x / 320) j + 4096 - 1) / 8192) 10 (x % 320))) (hl : ∀ m, 0 ≤ m → m < 6 → eqQ (K (205 + (20 + m).toNat)) (fun j => (kgT 1 (fun k => I 178 (0 + k))) m j - ((kgT 1 (fun k => I 178 (0 + k))) m j + 4096 - 1) / 8192 * 8192)) (h4 : K 175 4 = 0) (okk : kgOk 1 (fun k => I 178 (0 + k))) (hP : ∀ r_ h2_, RsR h I L (cKeys 1 (I 186 0) (fun k => I 178 (0 + k))) (fun a => a = 179 ∨ a = 180 ∨ a = 186) (fun v I' _ => v = sSec 1 ∧ ((∀ j, j ≠ 1 → j ≠ 2 → I' 186 j = I 186 j) ∧ I' 186 1 = 32 + 320 * pK 1 ∧ I' 186 2 = sSec 1) ∧ (HR I' 179 0 (32 + 320 * pK 1) (kgPk 1 (fun k => I 178 (0 + k))) ∧ rng (I 179) (I' 179)) ∧ HR I' 180 0 (sSec 1) (kgSk 1 (fun k => I 178 (0 + k))) ∧ rng (I 180) (I' 180)) r_ h2_ → P r_ h2_) : AW l G M_Mo_dsaKeys P 490 [(4, vi 11264), (0, vr 175)] [] (sD h K M) := by
  refine aw_aload_n d_Mo_dsaKeys_490 rfl rfl ?_
  refine aw_iload d_Mo_dsaKeys_491 rfl ?_
  refine ax_putI d_Mo_dsaKeys_493 fd_Mo_216 (k_175 S) (by decide) rfl ?_
  refine aw_iconst d_Mo_dsaKeys_496 ⟨by decide, by decide⟩ ?_
  refine aw_istore (lv' := [(5, vi 0), (4, vi 11264), (0, vr 175)]) d_Mo_dsaKeys_497 (by decide) rfl ?_
  have lp_499 : ∀ (n_ : Nat) (i : Int) (K2 : Nat → Int → Int), (0 ≤ i ∧ i ≤ 6) → (FR (fun a => a = 262) K M K2 M) → (K2 175 23 = 8 * (1408 + 416 * i)) → (HR K2 262 0 1408 (fun x => gB (fun j => 4 - (kgYs 1 (fun k => I 178 (0 + k))) (x / 128) j) 4 (x % 128))) → (HR K2 262 1408 (416 * i) (fun x => gB (fun j => 4096 - ((kgT 1 (fun k => I 178 (0 + k))) (x / 416) j - ((kgT 1 (fun k => I 178 (0 + k))) (x / 416) j + 4096 - 1) / 8192 * 8192)) 13 (x % 416))) → (K2 175 4 = 0) → ((6 - i).toNat) = n_ → AW l G M_Mo_dsaKeys P 499 [(5, vi i), (0, vr 175)] [] (sD h K2 M) := by
    intro n_
    induction n_ using Nat.strongRecOn with
    | _ n_ ih_499 =>
    intro i K2 hi F b1 h1 h2 c4 hm_499
    refine aw_iload d_Mo_dsaKeys_499 rfl ?_
    refine aw_aload_n d_Mo_dsaKeys_501 rfl rfl ?_
    refine ax_getIe (x := 6) d_Mo_dsaKeys_502 fd_Mo_223 (k_175 S) (Eq.trans (F.1 175 26 (by omega) (Or.inr (by decide))) (dr1_26 D)) ?_
    refine aw_icmp_ge (tgt := 538) d_Mo_dsaKeys_505 (by decide) (fun c_505 => ?_) (fun c_505 => ?_)
    · skip
      refine aw_aload_n d_Mo_dsaKeys_538 rfl rfl ?_
      refine ax_getR (b := 202) d_Mo_dsaKeys_539 fd_Mo_68 (k_175 S) (r_175_25 S) ?_
      refine aw_iconst d_Mo_dsaKeys_542 ⟨by decide, by decide⟩ ?_
      refine aw_aload_n d_Mo_dsaKeys_543 rfl rfl ?_
      refine ax_getR (b := 177) d_Mo_dsaKeys_544 fd_Mo_15 (k_175 S) (r_175_1 S) ?_
      refine aw_iconst d_Mo_dsaKeys_547 ⟨by decide, by decide⟩ ?_
      refine ax_aald (b := 179) d_Mo_dsaKeys_548 ⟨by rw [(k_177 S)]; decide, by rw [(k_177 S)]; decide⟩ (by omega) (by rw [n_177 S]; omega) (g_177 S (j := 1) (by decide) (by decide)) ?_
      refine aw_iconst d_Mo_dsaKeys_549 ⟨by decide, by decide⟩ ?_
      refine aw_bipush d_Mo_dsaKeys_550 ⟨by decide, by decide⟩ (by decide) ?_
      refine ax_S (st := []) (as := [vr 202, vi 0, vr 179, vi 0, vi 32]) (v := none) (h' := sD h (putRow K2 179 0 32 (fun k => K2 202 (0 + k))) M) d_Mo_dsaKeys_552 cs_Mo_dsaKeys_552 (c_Mo_move ⟨k_202 S, by decide⟩ ⟨k_179 S, by decide, trivial⟩ (by decide) (by rw [n_202 S, n_179 S]; omega)) rfl rfl rfl ?_
      show AW l G M_Mo_dsaKeys P 555 [(5, vi i), (0, vr 175)] [] (sD h (putRow K2 179 0 32 (fun k => K2 202 (0 + k))) M)
      refine aw_aload_n d_Mo_dsaKeys_555 rfl rfl ?_
      refine ax_getR (b := 263) d_Mo_dsaKeys_556 fd_Mo_87 (k_175 S) (r_175_31 S) ?_
      refine aw_iconst d_Mo_dsaKeys_559 ⟨by decide, by decide⟩ ?_
      refine aw_aload_n d_Mo_dsaKeys_560 rfl rfl ?_
      refine ax_getR (b := 177) d_Mo_dsaKeys_561 fd_Mo_15 (k_175 S) (r_175_1 S) ?_
      refine aw_iconst d_Mo_dsaKeys_564 ⟨by decide, by decide⟩ ?_
      refine ax_aald (b := 179) d_Mo_dsaKeys_565 ⟨by rw [(k_177 S)]; decide, by rw [(k_177 S)]; decide⟩ (by omega) (by rw [n_177 S]; omega) (g_177 S (j := 1) (by decide) (by decide)) ?_
      refine aw_bipush d_Mo_dsaKeys_566 ⟨by decide, by decide⟩ (by decide) ?_
      refine aw_sipush d_Mo_dsaKeys_568 ⟨by decide, by decide⟩ (by decide) ?_
      refine aw_aload_n d_Mo_dsaKeys_571 rfl rfl ?_
      refine ax_getIe (x := 6) d_Mo_dsaKeys_572 fd_Mo_223 (k_175 S) (Eq.trans (putRow_ne (by decide)) (Eq.trans (F.1 175 26 (by omega) (Or.inr (by decide))) (dr1_26 D))) ?_
      refine ax_imul d_Mo_dsaKeys_575 ⟨(by omega), (by omega)⟩ ?_
      refine ax_ti (x := 1920) (by decide) ?_
      refine ax_S (st := []) (as := [vr 263, vi 0, vr 179, vi 32, vi 1920]) (v := none) (h' := sD h (putRow (putRow K2 179 0 32 (fun k => K2 202 (0 + k))) 179 32 1920 (fun k => (putRow K2 179 0 32 (fun k => K2 202 (0 + k))) 263 (0 + k))) M) d_Mo_dsaKeys_576 cs_Mo_dsaKeys_576 (c_Mo_move ⟨k_263 S, by decide⟩ ⟨k_179 S, by decide, trivial⟩ (by decide) (by rw [n_263 S, n_179 S]; omega)) rfl rfl rfl ?_
      show AW l G M_Mo_dsaKeys P 579 [(5, vi i), (0, vr 175)] [] (sD h (putRow (putRow K2 179 0 32 (fun k => K2 202 (0 + k))) 179 32 1920 (fun k => (putRow K2 179 0 32 (fun k => K2 202 (0 + k))) 263 (0 + k))) M)
      refine aw_aload_n d_Mo_dsaKeys_579 rfl rfl ?_
      refine ax_getR (b := 186) d_Mo_dsaKeys_580 fd_Mo_18 (k_175 S) (r_175_2 S) ?_
      refine aw_iconst d_Mo_dsaKeys_583 ⟨by decide, by decide⟩ ?_
      refine aw_bipush d_Mo_dsaKeys_584 ⟨by decide, by decide⟩ (by decide) ?_
      refine aw_sipush d_Mo_dsaKeys_586 ⟨by decide, by decide⟩ (by decide) ?_
      refine aw_aload_n d_Mo_dsaKeys_589 rfl rfl ?_
      refine ax_getIe (x := 6) d_Mo_dsaKeys_590 fd_Mo_223 (k_175 S) (Eq.trans (putRow_ne (by decide)) (Eq.trans (putRow_ne (by decide)) (Eq.trans (F.1 175 26 (by omega) (Or.inr (by decide))) (dr1_26 D)))) ?_
      refine ax_imul d_Mo_dsaKeys_593 ⟨(by omega), (by omega)⟩ ?_
      refine ax_ti (x := 1920) (by decide) ?_
      refine ax_iadd d_Mo_dsaKeys_594 ⟨(by omega), (by omega)⟩ ?_
      refine ax_ti (x := 1952) (by decide) ?_
      refine ax_iast d_Mo_dsaKeys_595 (k_186 S) (by decide) (by omega) (by rw [n_186 S]; omega) ?_
      refine aw_aload_n d_Mo_dsaKeys_596 rfl rfl ?_
      refine ax_getR (b := 202) d_Mo_dsaKeys_597 fd_Mo_68 (k_175 S) (r_175_25 S) ?_
      refine aw_iconst d_Mo_dsaKeys_600 ⟨by decide, by decide⟩ ?_
      refine aw_aload_n d_Mo_dsaKeys_601 rfl rfl ?_
      refine ax_getR (b := 177) d_Mo_dsaKeys_602 fd_Mo_15 (k_175 S) (r_175_1 S) ?_
      refine aw_iconst d_Mo_dsaKeys_605 ⟨by decide, by decide⟩ ?_
      refine ax_aald (b := 180) d_Mo_dsaKeys_606 ⟨by rw [(k_177 S)]; decide, by rw [(k_177 S)]; decide⟩ (by omega) (by rw [n_177 S]; omega) (g_177 S (j := 2) (by decide) (by decide)) ?_
      refine aw_iconst d_Mo_dsaKeys_607 ⟨by decide, by decide⟩ ?_
      refine aw_bipush d_Mo_dsaKeys_608 ⟨by decide, by decide⟩ (by decide) ?_
      refine ax_S (st := []) (as := [vr 202, vi 0, vr 180, vi 0, vi 32]) (v := none) (h' := sD h (putRow (a_up (putRow (putRow K2 179 0 32 (fun k => K2 202 (0 + k))) 179 32 1920 (fun k => (putRow K2 179 0 32 (fun k => K2 202 (0 + k))) 263 (0 + k))) 186 1 1952) 180 0 32 (fun k => (a_up (putRow (putRow K2 179 0 32 (fun k => K2 202 (0 + k))) 179 32 1920 (fun k => (putRow K2 179 0 32 (fun k => K2 202 (0 + k))) 263 (0 + k))) 186 1 1952) 202 (0 + k))) M) d_Mo_dsaKeys_610 cs_Mo_dsaKeys_610 (c_Mo_move ⟨k_202 S, by decide⟩ ⟨k_180 S, by decide, trivial⟩ (by decide) (by rw [n_202 S, n_180 S]; omega)) rfl rfl rfl ?_
      show AW l G M_Mo_dsaKeys P 613 [(5, vi i), (0, vr 175)] [] (sD h (putRow (a_up (putRow (putRow K2 179 0 32 (fun k => K2 202 (0 + k))) 179 32 1920 (fun k => (putRow K2 179 0 32 (fun k => K2 202 (0 + k))) 263 (0 + k))) 186 1 1952) 180 0 32 (fun k => (a_up (putRow (putRow K2 179 0 32 (fun k => K2 202 (0 + k))) 179 32 1920 (fun k => (putRow K2 179 0 32 (fun k => K2 202 (0 + k))) 263 (0 + k))) 186 1 1952) 202 (0 + k))) M)
      refine aw_aload_n d_Mo_dsaKeys_613 rfl rfl ?_
      refine ax_getR (b := 202) d_Mo_dsaKeys_614 fd_Mo_68 (k_175 S) (r_175_25 S) ?_
      refine aw_bipush d_Mo_dsaKeys_617 ⟨by decide, by decide⟩ (by decide) ?_
      refine aw_aload_n d_Mo_dsaKeys_619 rfl rfl ?_
      refine ax_getR (b := 177) d_Mo_dsaKeys_620 fd_Mo_15 (k_175 S) (r_175_1 S) ?_
      refine aw_iconst d_Mo_dsaKeys_623 ⟨by decide, by decide⟩ ?_
      refine ax_aald (b := 180) d_Mo_dsaKeys_624 ⟨by rw [(k_177 S)]; decide, by rw [(k_177 S)]; decide⟩ (by omega) (by rw [n_177 S]; omega) (g_177 S (j := 2) (by decide) (by decide)) ?_
      refine aw_bipush d_Mo_dsaKeys_625 ⟨by decide, by decide⟩ (by decide) ?_
      refine aw_bipush d_Mo_dsaKeys_627 ⟨by decide, by decide⟩ (by decide) ?_
      refine ax_S (st := []) (as := [vr 202, vi 96, vr 180, vi 32, vi 32]) (v := none) (h' := sD h (putRow (putRow (a_up (putRow (putRow K2 179 0 32 (fun k => K2 202 (0 + k))) 179 32 1920 (fun k => (putRow K2 179 0 32 (fun k => K2 202 (0 + k))) 263 (0 + k))) 186 1 1952) 180 0 32 (fun k => (a_up (putRow (putRow K2 179 0 32 (fun k => K2 202 (0 + k))) 179 32 1920 (fun k => (putRow K2 179 0 32 (fun k => K2 202 (0 + k))) 263 (0 + k))) 186 1 1952) 202 (0 + k))) 180 32 32 (fun k => (putRow (a_up (putRow (putRow K2 179 0 32 (fun k => K2 202 (0 + k))) 179 32 1920 (fun k => (putRow K2 179 0 32 (fun k => K2 202 (0 + k))) 263 (0 + k))) 186 1 1952) 180 0 32 (fun k => (a_up (putRow (putRow K2 179 0 32 (fun k => K2 202 (0 + k))) 179 32 1920 (fun k => (putRow K2 179 0 32 (fun k => K2 202 (0 + k))) 263 (0 + k))) 186 1 1952) 202 (0 + k))) 202 (96 + k))) M) d_Mo_dsaKeys_629 cs_Mo_dsaKeys_629 (c_Mo_move ⟨k_202 S, by decide⟩ ⟨k_180 S, by decide, trivial⟩ (by decide) (by rw [n_202 S, n_180 S]; omega)) rfl rfl rfl ?_
      show AW l G M_Mo_dsaKeys P 632 [(5, vi i), (0, vr 175)] [] (sD h (putRow (putRow (a_up (putRow (putRow K2 179 0 32 (fun k => K2 202 (0 + k))) 179 32 1920 (fun k => (putRow K2 179 0 32 (fun k => K2 202 (0 + k))) 263 (0 + k))) 186 1 1952) 180 0 32 (fun k => (a_up (putRow (putRow K2 179 0 32 (fun k => K2 202 (0 + k))) 179 32 1920 (fun k => (putRow K2 179 0 32 (fun k => K2 202 (0 + k))) 263 (0 + k))) 186 1 1952) 202 (0 + k))) 180 32 32 (fun k => (putRow (a_up (putRow (putRow K2 179 0 32 (fun k => K2 202 (0 + k))) 179 32 1920 (fun k => (putRow K2 179 0 32 (fun k => K2 202 (0 + k))) 263 (0 + k))) 186 1 1952) 180 0 32 (fun k => (a_up (putRow (putRow K2 179 0 32 (fun k => K2 202 (0 + k))) 179 32 1920 (fun k => (putRow K2 179 0 32 (fun k => K2 202 (0 + k))) 263 (0 + k))) 186 1 1952) 202 (0 + k))) 202 (96 + k))) M)
      have G1 : FR (fun a => a = 262 ∨ a = 179) K M (putRow (putRow K2 179 0 32 (fun k => K2 202 (0 + k))) 179 32 1920 (fun k => (putRow K2 179 0 32 (fun k => K2 202 (0 + k))) 263 (0 + k))) M := (F.tr (FR.put (p := fun a => a = 179) rfl) (r := fun a => a = 262 ∨ a = 179) (by intro a x; omega)).tr (FR.put (p := fun a => a = 179) rfl) (by intro a x; omega)
      have G2 : FR (fun a => a = 262 ∨ a = 179 ∨ a = 180 ∨ a = 186) K M (putRow (putRow (a_up (putRow (putRow K2 179 0 32 (fun k => K2 202 (0 + k))) 179 32 1920 (fun k => (putRow K2 179 0 32 (fun k => K2 202 (0 + k))) 263 (0 + k))) 186 1 1952) 180 0 32 (fun k => (a_up (putRow (putRow K2 179 0 32 (fun k => K2 202 (0 + k))) 179 32 1920 (fun k => (putRow K2 179 0 32 (fun k => K2 202 (0 + k))) 263 (0 + k))) 186 1 1952) 202 (0 + k))) 180 32 32 (fun k => (putRow (a_up (putRow (putRow K2 179 0 32 (fun k => K2 202 (0 + k))) 179 32 1920 (fun k => (putRow K2 179 0 32 (fun k => K2 202 (0 + k))) 263 (0 + k))) 186 1 1952) 180 0 32 (fun k => (a_up (putRow (putRow K2 179 0 32 (fun k => K2 202 (0 + k))) 179 32 1920 (fun k => (putRow K2 179 0 32 (fun k => K2 202 (0 + k))) 263 (0 + k))) 186 1 1952) 202 (0 + k))) 202 (96 + k))) M := ((G1.tr (FR.up (p := fun a => a = 186) rfl) (r := fun a => a = 262 ∨ a = 179 ∨ a = 180 ∨ a = 186) (by intro a x; omega)).tr (FR.put (p := fun a => a = 180) rfl) (r := fun a => a = 262 ∨ a = 179 ∨ a = 180 ∨ a = 186) (by intro a x; omega)).tr (FR.put (p := fun a => a = 180) rfl) (by intro a x; omega)
      have p1 : HR (putRow (putRow K2 179 0 32 (fun k => K2 202 (0 + k))) 179 32 1920 (fun k => (putRow K2 179 0 32 (fun k => K2 202 (0 + k))) 263 (0 + k))) 179 0 (32 + 1920) (kgPk 1 (fun k => I 178 (0 + k))) := by
        refine HR.join (n := 32) (m := 1920) (HR.pre (HR.put (fun z x y => ?_)) (by omega)) (HR.put (fun z x y => ?_))
        · rw [F.1 202 _ (by decide) (Or.inl (by decide)), hs z x (by omega), show kgPk 1 (fun k => I 178 (0 + k)) z = pkB (kgSd 1 (fun k => I 178 (0 + k))) (kgT 1 (fun k => I 178 (0 + k))) z from rfl]; unfold pkB; rw [if_pos y]
        · rw [putRow_ne (by decide), F.1 263 _ (by decide) (Or.inl (by decide)), ho z x (by omega), show kgPk 1 (fun k => I 178 (0 + k)) (32 + z) = pkB (kgSd 1 (fun k => I 178 (0 + k))) (kgT 1 (fun k => I 178 (0 + k))) (32 + z) from rfl]; unfold pkB; rw [if_neg (by omega), show 32 + z - 32 = z by omega]
      have p2 : HR (putRow (putRow (a_up (putRow (putRow K2 179 0 32 (fun k => K2 202 (0 + k))) 179 32 1920 (fun k => (putRow K2 179 0 32 (fun k => K2 202 (0 + k))) 263 (0 + k))) 186 1 1952) 180 0 32 (fun k => (a_up (putRow (putRow K2 179 0 32 (fun k => K2 202 (0 + k))) 179 32 1920 (fun k => (putRow K2 179 0 32 (fun k => K2 202 (0 + k))) 263 (0 + k))) 186 1 1952) 202 (0 + k))) 180 32 32 (fun k => (putRow (a_up (putRow (putRow K2 179 0 32 (fun k => K2 202 (0 + k))) 179 32 1920 (fun k => (putRow K2 179 0 32 (fun k => K2 202 (0 + k))) 263 (0 + k))) 186 1 1952) 180 0 32 (fun k => (a_up (putRow (putRow K2 179 0 32 (fun k => K2 202 (0 + k))) 179 32 1920 (fun k => (putRow K2 179 0 32 (fun k => K2 202 (0 + k))) 263 (0 + k))) 186 1 1952) 202 (0 + k))) 202 (96 + k))) 179 0 (32 + 1920) (kgPk 1 (fun k => I 178 (0 + k))) := fun z x y => by rw [putRow_ne (by decide), putRow_ne (by decide), a_up_ne (Or.inl (by decide))]; exact p1 z x y
      have t2 : ∀ z, 0 ≤ z → z < 128 → (a_up (putRow (putRow K2 179 0 32 (fun k => K2 202 (0 + k))) 179 32 1920 (fun k => (putRow K2 179 0 32 (fun k => K2 202 (0 + k))) 263 (0 + k))) 186 1 1952) 202 (0 + z) % 256 = (kgSd 1 (fun k => I 178 (0 + k))) z := fun z x y => by rw [a_up_ne (Or.inl (by decide)), putRow_ne (by decide), putRow_ne (by decide), F.1 202 _ (by decide) (Or.inl (by decide)), hs z x y]
      have RS := D.1.fr G2 (by decide)
      refine aw_aload_n d_Mo_dsaKeys_632 rfl rfl ?_
      refine aw_bipush d_Mo_dsaKeys_633 ⟨by decide, by decide⟩ (by decide) ?_
      refine ax_Vr (st := []) (as := [vi 12]) (b := 175) d_Mo_dsaKeys_635 cs_Mo_dsaKeys_635 (k_175 S) (c_Mo_begin12 S) rfl rfl rfl (fun u_635 q_635 => ?_)
      obtain ⟨I1, L1⟩ := u_635
      obtain ⟨F1, e1, k1⟩ := q_635
      dsimp only at F1 e1 k1
      show AW l G M_Mo_dsaKeys P 638 [(5, vi i), (0, vr 175)] [] (sD h I1 L1)
      refine aw_aload_n d_Mo_dsaKeys_638 rfl rfl ?_
      refine aw_aload_n d_Mo_dsaKeys_639 rfl rfl ?_
      refine ax_getR (b := 177) d_Mo_dsaKeys_640 fd_Mo_15 (k_175 S) (r_175_1 S) ?_
      refine aw_iconst d_Mo_dsaKeys_643 ⟨by decide, by decide⟩ ?_
      refine ax_aald (b := 179) d_Mo_dsaKeys_644 ⟨by rw [(k_177 S)]; decide, by rw [(k_177 S)]; decide⟩ (by omega) (by rw [n_177 S]; omega) (g_177 S (j := 1) (by decide) (by decide)) ?_
      refine aw_iconst d_Mo_dsaKeys_645 ⟨by decide, by decide⟩ ?_
      refine aw_aload_n d_Mo_dsaKeys_646 rfl rfl ?_
      refine ax_getR (b := 186) d_Mo_dsaKeys_647 fd_Mo_18 (k_175 S) (r_175_2 S) ?_
      refine aw_iconst d_Mo_dsaKeys_650 ⟨by decide, by decide⟩ ?_
      refine ax_ialde (x := 1952) d_Mo_dsaKeys_651 (k_186 S) (by omega) (by rw [n_186 S]; omega) (Eq.trans (F1.1 186 1 (Or.inl (by decide))) ((putRow_ne (by decide)).trans ((putRow_ne (by decide)).trans a_up_at))) ?_
      refine ax_Vr (st := []) (as := [vr 179, vi 0, vi 1952]) (b := 175) d_Mo_dsaKeys_652 cs_Mo_dsaKeys_652 (k_175 S) (c_Mo_put3 S (RS.rf F1) (by omega) (by rw [e1]; exact spStart_lt (by decide) (by decide)) ⟨k_179 S, by decide, by decide⟩ (by rw [n_179 S]; decide)) rfl rfl rfl (fun u_652 q_652 => ?_)
      obtain ⟨I2, L2⟩ := u_652
      obtain ⟨F2, e2, k2⟩ := q_652
      dsimp only at F2 e2 k2
      show AW l G M_Mo_dsaKeys P 655 [(5, vi i), (0, vr 175)] [] (sD h I2 L2)
      have eS : spTurn (spR I2 L2) = blS (kgPk 1 (fun k => I 178 (0 + k))) 1952 := by rw [e2, e1, show Int.toNat 1952 = 1952 from rfl, spPart_congr (f := fun k => I1 179 (0 + k)) (g := kgPk 1 (fun k => I 178 (0 + k))) (fun k hk => by rw [F1.1 179 _ (Or.inl (by decide)), p2 k (by omega) (by omega), kgPk_m])]; rfl
      refine aw_aload_n d_Mo_dsaKeys_655 rfl rfl ?_
      refine aw_aload_n d_Mo_dsaKeys_656 rfl rfl ?_
      refine ax_getR (b := 177) d_Mo_dsaKeys_657 fd_Mo_15 (k_175 S) (r_175_1 S) ?_
      refine aw_iconst d_Mo_dsaKeys_660 ⟨by decide, by decide⟩ ?_
      refine ax_aald (b := 180) d_Mo_dsaKeys_661 ⟨by rw [(k_177 S)]; decide, by rw [(k_177 S)]; decide⟩ (by omega) (by rw [n_177 S]; omega) (g_177 S (j := 2) (by decide) (by decide)) ?_
      refine aw_bipush d_Mo_dsaKeys_662 ⟨by decide, by decide⟩ (by decide) ?_
      refine aw_bipush d_Mo_dsaKeys_664 ⟨by decide, by decide⟩ (by decide) ?_
      refine ax_Vr (st := []) (as := [vr 180, vi 64, vi 64]) (b := 175) d_Mo_dsaKeys_666 cs_Mo_dsaKeys_666 (k_175 S) (c_Mo_give S ((RS.rf F1).rf F2) (by omega) (by rw [e2, e1]; exact (spPart_lt (spStart_lt (by decide) (by decide)) _ _).1) ⟨k_180 S, by decide, by decide, by decide⟩ (by rw [n_180 S]; decide)) rfl rfl rfl (fun u_666 q_666 => ?_)
      obtain ⟨I4, L4⟩ := u_666
      obtain ⟨F4, f4, e4, k4⟩ := q_666
      dsimp only at F4 f4 e4 k4
      rw [eS] at F4
      have G4 : FR (fun a => a = 180) (putRow (putRow (a_up (putRow (putRow K2 179 0 32 (fun k => K2 202 (0 + k))) 179 32 1920 (fun k => (putRow K2 179 0 32 (fun k => K2 202 (0 + k))) 263 (0 + k))) 186 1 1952) 180 0 32 (fun k => (a_up (putRow (putRow K2 179 0 32 (fun k => K2 202 (0 + k))) 179 32 1920 (fun k => (putRow K2 179 0 32 (fun k => K2 202 (0 + k))) 263 (0 + k))) 186 1 1952) 202 (0 + k))) 180 32 32 (fun k => (putRow (a_up (putRow (putRow K2 179 0 32 (fun k => K2 202 (0 + k))) 179 32 1920 (fun k => (putRow K2 179 0 32 (fun k => K2 202 (0 + k))) 263 (0 + k))) 186 1 1952) 180 0 32 (fun k => (a_up (putRow (putRow K2 179 0 32 (fun k => K2 202 (0 + k))) 179 32 1920 (fun k => (putRow K2 179 0 32 (fun k => K2 202 (0 + k))) 263 (0 + k))) 186 1 1952) 202 (0 + k))) 202 (96 + k))) M I4 L4 := ((F1.tr F2).fr (p := fun a => a = 180)).tr (FR.give (p := fun a => a = 180) F4 f4 rfl) (fun a x => ⟨x, x⟩)
      have G5 : FR (fun a => a = 262 ∨ a = 179 ∨ a = 180 ∨ a = 186) K M I4 L4 := G2.tr G4 (by intro a x; omega)
      have D4 := D.fr G5 (by decide)
      show AW l G M_Mo_dsaKeys P 669 [(5, vi i), (0, vr 175)] [] (sD h I4 L4)
      refine aw_aload_n d_Mo_dsaKeys_669 rfl rfl ?_
      refine ax_getR (b := 186) d_Mo_dsaKeys_670 fd_Mo_18 (k_175 S) (r_175_2 S) ?_
      refine aw_iconst d_Mo_dsaKeys_673 ⟨by decide, by decide⟩ ?_
      refine aw_aload_n d_Mo_dsaKeys_674 rfl rfl ?_
      refine ax_V (st := [vi 2, vr 186]) (as := []) (b := 175) (v := some (vi 4032)) (h' := sD h I4 L4) d_Mo_dsaKeys_675 cs_Mo_dsaKeys_675 (k_175 S) (c_Mo_secretLength (z := 4032) S (by rw [dr1_33 D4, dr1_32 D4, dr1_26 D4]; decide) (by rw [dr1_32 D4, dr1_26 D4]; decide)) rfl rfl rfl ?_
      show AW l G M_Mo_dsaKeys P 678 [(5, vi i), (0, vr 175)] [vi 4032, vi 2, vr 186] (sD h I4 L4)
      refine ax_iast d_Mo_dsaKeys_678 (k_186 S) (by decide) (by omega) (by rw [n_186 S]; omega) ?_
      refine aw_aload_n d_Mo_dsaKeys_679 rfl rfl ?_
      refine ax_getR (b := 262) d_Mo_dsaKeys_680 fd_Mo_84 (k_175 S) (r_175_30 S) ?_
      refine aw_iconst d_Mo_dsaKeys_683 ⟨by decide, by decide⟩ ?_
      refine aw_aload_n d_Mo_dsaKeys_684 rfl rfl ?_
      refine ax_getR (b := 177) d_Mo_dsaKeys_685 fd_Mo_15 (k_175 S) (r_175_1 S) ?_
      refine aw_iconst d_Mo_dsaKeys_688 ⟨by decide, by decide⟩ ?_
      refine ax_aald (b := 180) d_Mo_dsaKeys_689 ⟨by rw [(k_177 S)]; decide, by rw [(k_177 S)]; decide⟩ (by omega) (by rw [n_177 S]; omega) (g_177 S (j := 2) (by decide) (by decide)) ?_
      refine aw_sipush d_Mo_dsaKeys_690 ⟨by decide, by decide⟩ (by decide) ?_
      refine aw_aload_n d_Mo_dsaKeys_693 rfl rfl ?_
      refine ax_getR (b := 186) d_Mo_dsaKeys_694 fd_Mo_18 (k_175 S) (r_175_2 S) ?_
      refine aw_iconst d_Mo_dsaKeys_697 ⟨by decide, by decide⟩ ?_
      refine ax_ialde (x := 4032) d_Mo_dsaKeys_698 (k_186 S) (by omega) (by rw [n_186 S]; omega) (a_up_at) ?_
      refine aw_sipush d_Mo_dsaKeys_699 ⟨by decide, by decide⟩ (by decide) ?_
      refine ax_isub d_Mo_dsaKeys_702 ⟨(by omega), (by omega)⟩ ?_
      refine ax_ti (x := 3904) (by decide) ?_
      refine ax_S (st := []) (as := [vr 262, vi 0, vr 180, vi 128, vi 3904]) (v := none) (h' := sD h (putRow (a_up I4 186 2 4032) 180 128 (3904) (fun k => (a_up I4 186 2 4032) 262 (0 + k))) L4) d_Mo_dsaKeys_703 cs_Mo_dsaKeys_703 (c_Mo_move ⟨k_262 S, by decide⟩ ⟨k_180 S, by decide, trivial⟩ (by decide) (by rw [n_262 S, n_180 S]; omega)) rfl rfl rfl ?_
      show AW l G M_Mo_dsaKeys P 706 [(5, vi i), (0, vr 175)] [] (sD h (putRow (a_up I4 186 2 4032) 180 128 (3904) (fun k => (a_up I4 186 2 4032) 262 (0 + k))) L4)
      have r4 : HR I4 180 0 128 (kgSk 1 (fun k => I 178 (0 + k))) := by
        have x1 : HR (putRow (putRow (a_up (putRow (putRow K2 179 0 32 (fun k => K2 202 (0 + k))) 179 32 1920 (fun k => (putRow K2 179 0 32 (fun k => K2 202 (0 + k))) 263 (0 + k))) 186 1 1952) 180 0 32 (fun k => (a_up (putRow (putRow K2 179 0 32 (fun k => K2 202 (0 + k))) 179 32 1920 (fun k => (putRow K2 179 0 32 (fun k => K2 202 (0 + k))) 263 (0 + k))) 186 1 1952) 202 (0 + k))) 180 32 32 (fun k => (putRow (a_up (putRow (putRow K2 179 0 32 (fun k => K2 202 (0 + k))) 179 32 1920 (fun k => (putRow K2 179 0 32 (fun k => K2 202 (0 + k))) 263 (0 + k))) 186 1 1952) 180 0 32 (fun k => (a_up (putRow (putRow K2 179 0 32 (fun k => K2 202 (0 + k))) 179 32 1920 (fun k => (putRow K2 179 0 32 (fun k => K2 202 (0 + k))) 263 (0 + k))) 186 1 1952) 202 (0 + k))) 202 (96 + k))) 180 0 (32 + 32) (kgSk 1 (fun k => I 178 (0 + k))) := by
          refine HR.join (HR.pre (HR.put (fun z x y => ?_)) (by omega)) (HR.put (fun z x y => ?_))
          · rw [t2 z x (by omega), show kgSk 1 (fun k => I 178 (0 + k)) z = skB1 (kgSd 1 (fun k => I 178 (0 + k))) (spOut (blS (kgPk 1 (fun k => I 178 (0 + k))) 1952)) (kgY 1 (fun k => I 178 (0 + k))) (kgT 1 (fun k => I 178 (0 + k))) z from rfl]; unfold skB1; rw [if_pos y]
          · have w_ := t2 (96 + z) (by omega) (by omega)
            rw [Int.zero_add] at w_
            rw [putRow_ne (by decide), w_, show kgSk 1 (fun k => I 178 (0 + k)) (32 + z) = skB1 (kgSd 1 (fun k => I 178 (0 + k))) (spOut (blS (kgPk 1 (fun k => I 178 (0 + k))) 1952)) (kgY 1 (fun k => I 178 (0 + k))) (kgT 1 (fun k => I 178 (0 + k))) (32 + z) from rfl]; unfold skB1; rw [if_neg (by omega), if_pos (by omega), show 32 + z - 32 = z by omega]
        have x2 : ∀ z, 0 ≤ z → z < 64 → I4 180 (0 + z) % 256 = kgSk 1 (fun k => I 178 (0 + k)) z := fun z x y => by
          rw [F4 180 _ (Or.inl (by decide)), putRow_out (by omega), (F1.tr F2).1 180 _ (Or.inl (by decide))]
          exact x1 z x (by omega)
        have x3 := HR.give F4 (by decide)
        refine HR.join (n := 64) (m := 64) x2 (fun z x y => ?_)
        rw [show (0 + 64 + z : Int) = 64 + z by omega, x3 z x y]
        show _ = kgSk 1 (fun k => I 178 (0 + k)) (64 + z)
        rw [show kgSk 1 (fun k => I 178 (0 + k)) (64 + z) = skB1 (kgSd 1 (fun k => I 178 (0 + k))) (spOut (blS (kgPk 1 (fun k => I 178 (0 + k))) 1952)) (kgY 1 (fun k => I 178 (0 + k))) (kgT 1 (fun k => I 178 (0 + k))) (64 + z) from rfl]; unfold skB1; rw [if_neg (by omega), if_neg (by omega), if_pos (by omega), show 64 + z - 64 = z by omega]
      have bf : ∀ z, 0 ≤ z → z < 3904 → (a_up I4 186 2 4032) 262 (0 + z) % 256 = kgSk 1 (fun k => I 178 (0 + k)) (128 + z) := fun z x y => by
        rw [a_up_ne (Or.inl (by decide)), G4.1 262 _ (by decide) (Or.inl (by decide)), putRow_ne (by decide), putRow_ne (by decide), a_up_ne (Or.inl (by decide)), putRow_ne (by decide), putRow_ne (by decide)]
        by_cases v : z < 1408
        · rw [h1 z x v, show kgSk 1 (fun k => I 178 (0 + k)) (128 + z) = skB1 (kgSd 1 (fun k => I 178 (0 + k))) (spOut (blS (kgPk 1 (fun k => I 178 (0 + k))) 1952)) (kgY 1 (fun k => I 178 (0 + k))) (kgT 1 (fun k => I 178 (0 + k))) (128 + z) from rfl]; unfold skB1; rw [if_neg (by omega), if_neg (by omega), if_neg (by omega), if_pos (by omega), show 128 + z - 128 = z by omega]
          show gB _ 4 _ = gB _ 4 _
          exact congrFun (gB_congr (fun j u w_ => by have q_ := kgYs_b (s := 1) (g := (fun k => I 178 (0 + k))) (m := z / 128) (j := j); rw [show pE 1 = 4 from rfl] at q_; show 4 - (kgYs 1 (fun k => I 178 (0 + k))) (z / 128) j = (4 - (kgY 1 (fun k => I 178 (0 + k))) (z / 128) j) % 8380417; rw [kgY_Ys]; omega)) _
        · have y2 := h2 (z - 1408) (by omega) (by omega)
          rw [show (1408 + (z - 1408) : Int) = 0 + z by omega] at y2
          rw [y2, show kgSk 1 (fun k => I 178 (0 + k)) (128 + z) = skB1 (kgSd 1 (fun k => I 178 (0 + k))) (spOut (blS (kgPk 1 (fun k => I 178 (0 + k))) 1952)) (kgY 1 (fun k => I 178 (0 + k))) (kgT 1 (fun k => I 178 (0 + k))) (128 + z) from rfl]; unfold skB1; rw [if_neg (by omega), if_neg (by omega), if_neg (by omega), if_neg (by omega), show 128 + z - 1536 = z - 1408 by omega]
      have r5 : HR (putRow (a_up I4 186 2 4032) 180 128 (3904) (fun k => (a_up I4 186 2 4032) 262 (0 + k))) 180 0 4032 (kgSk 1 (fun k => I 178 (0 + k))) := HR.join (n := 128) (m := 3904) (HR.pre (fun z x y => by rw [a_up_ne (Or.inl (by decide))]; exact r4 z x y) (by omega)) (HR.put bf)
      have G6 : FR (fun a => a = 262 ∨ a = 179 ∨ a = 180 ∨ a = 186) K M (putRow (a_up I4 186 2 4032) 180 128 (3904) (fun k => (a_up I4 186 2 4032) 262 (0 + k))) L4 := (G5.tr (FR.up (p := fun a => a = 186) rfl) (r := fun a => a = 262 ∨ a = 179 ∨ a = 180 ∨ a = 186) (by intro a x; omega)).tr (FR.put (p := fun a => a = 180) rfl) (by intro a x; omega)
      refine aw_aload_n d_Mo_dsaKeys_706 rfl rfl ?_
      refine ax_getR (b := 186) d_Mo_dsaKeys_707 fd_Mo_18 (k_175 S) (r_175_2 S) ?_
      refine aw_iconst d_Mo_dsaKeys_710 ⟨by decide, by decide⟩ ?_
      refine ax_ialde (x := 4032) d_Mo_dsaKeys_711 (k_186 S) (by omega) (by rw [n_186 S]; omega) ((putRow_ne (by decide)).trans a_up_at) ?_
      exact aw_iret d_Mo_dsaKeys_712 rfl (hP _ _ ⟨_, _, _, rfl, rfl, by rw [putRow_ne (by decide), a_up_ne (Or.inl (by decide)), cKeys_0 (by decide) n0 okk]; (rw [F4 175 4 (Or.inr (by decide)), putRow_ne (by decide), (F1.tr F2).1 175 4 (Or.inr (by decide)), putRow_ne (by decide), putRow_ne (by decide), a_up_ne (Or.inl (by decide)), putRow_ne (by decide), putRow_ne (by decide)]; exact c4), Or.inl ⟨cKeys_0 (by decide) n0 okk, fR0.fr R0 G6 (by intro a x y; exact ⟨fun z => z, by omega⟩) (by decide), rfl, ⟨fun j x y => by rw [putRow_ne (by decide), a_up_ne (Or.inr y), G4.1 186 j (by decide) (Or.inl (by decide)), putRow_ne (by decide), putRow_ne (by decide), a_up_ne (Or.inr x), G1.1 186 j (by decide) (Or.inl (by decide))]; exact R0.1 186 j (by omega) (fun z => z), by rw [putRow_ne (by decide), a_up_ne (Or.inr (by decide)), G4.1 186 1 (by decide) (Or.inl (by decide)), putRow_ne (by decide), putRow_ne (by decide), a_up_at]; rfl, by rw [putRow_ne (by decide), a_up_at]; rfl⟩, ⟨fun z x y => by rw [putRow_ne (by decide), a_up_ne (Or.inl (by decide)), G4.1 179 _ (by decide) (Or.inl (by decide))]; exact p2 z x y, fun j => by rw [putRow_ne (by decide), a_up_ne (Or.inl (by decide)), G4.1 179 _ (by decide) (Or.inl (by decide)), putRow_ne (by decide), putRow_ne (by decide), a_up_ne (Or.inl (by decide))]; have z := (rng.p (I := K2) (f := 179) (o := 0) (n := 32) (g := fun k => K2 202 (0 + k))).t (rng.p (I := putRow K2 179 0 32 (fun k => K2 202 (0 + k))) (f := 179) (o := 32) (n := 1920) (g := fun k => (putRow K2 179 0 32 (fun k => K2 202 (0 + k))) 263 (0 + k))) j; rwa [F.1 179 j (by decide) (Or.inl (by decide)), R0.1 179 j (by omega) (fun z => z)] at z⟩, r5, fun j => by have z := ((rng.p (I := a_up (putRow (putRow K2 179 0 32 (fun k => K2 202 (0 + k))) 179 32 1920 (fun k => (putRow K2 179 0 32 (fun k => K2 202 (0 + k))) 263 (0 + k))) 186 1 1952) (f := 180) (o := 0) (n := 32) (g := fun k => (a_up (putRow (putRow K2 179 0 32 (fun k => K2 202 (0 + k))) 179 32 1920 (fun k => (putRow K2 179 0 32 (fun k => K2 202 (0 + k))) 263 (0 + k))) 186 1 1952) 202 (0 + k))).t (rng.p (I := putRow (a_up (putRow (putRow K2 179 0 32 (fun k => K2 202 (0 + k))) 179 32 1920 (fun k => (putRow K2 179 0 32 (fun k => K2 202 (0 + k))) 263 (0 + k))) 186 1 1952) 180 0 32 (fun k => (a_up (putRow (putRow K2 179 0 32 (fun k => K2 202 (0 + k))) 179 32 1920 (fun k => (putRow K2 179 0 32 (fun k => K2 202 (0 + k))) 263 (0 + k))) 186 1 1952) 202 (0 + k))) (f := 180) (o := 32) (n := 32) (g := fun k => (putRow (a_up (putRow (putRow K2 179 0 32 (fun k => K2 202 (0 + k))) 179 32 1920 (fun k => (putRow K2 179 0 32 (fun k => K2 202 (0 + k))) 263 (0 + k))) 186 1 1952) 180 0 32 (fun k => (a_up (putRow (putRow K2 179 0 32 (fun k => K2 202 (0 + k))) 179 32 1920 (fun k => (putRow K2 179 0 32 (fun k => K2 202 (0 + k))) 263 (0 + k))) 186 1 1952) 202 (0 + k))) 202 (96 + k)))).t (rng.t (Y := I2 180) (fun j => Or.inl ((F1.tr F2).1 180 j (Or.inl (by decide)))) ((rng.g F4 (by decide)).t (rng.t (Y := (a_up I4 186 2 4032) 180) (fun j => Or.inl (a_up_ne (Or.inl (by decide)))) (rng.p (o := 128) (n := 3904) (g := fun k => (a_up I4 186 2 4032) 262 (0 + k)))))) j; rw [show (a_up (putRow (putRow K2 179 0 32 (fun k => K2 202 (0 + k))) 179 32 1920 (fun k => (putRow K2 179 0 32 (fun k => K2 202 (0 + k))) 263 (0 + k))) 186 1 1952) 180 j = I 180 j from by rw [a_up_ne (Or.inl (by decide)), putRow_ne (by decide), putRow_ne (by decide), F.1 180 j (by decide) (Or.inl (by decide)), R0.1 180 j (by omega) (fun z => z)]] at z; exact z⟩⟩)
    · skip
      refine aw_aload_n d_Mo_dsaKeys_508 rfl rfl ?_
      refine aw_aload_n d_Mo_dsaKeys_509 rfl rfl ?_
      refine ax_getR (b := 262) d_Mo_dsaKeys_510 fd_Mo_84 (k_175 S) (r_175_30 S) ?_
      refine aw_iconst d_Mo_dsaKeys_513 ⟨by decide, by decide⟩ ?_
      refine aw_aload_n d_Mo_dsaKeys_514 rfl rfl ?_
      refine ax_getR (b := 204) d_Mo_dsaKeys_515 fd_Mo_76 (k_175 S) (r_175_28 S) ?_
      refine aw_bipush d_Mo_dsaKeys_518 ⟨by decide, by decide⟩ (by decide) ?_
      refine aw_iload d_Mo_dsaKeys_520 rfl ?_
      refine ax_iadd d_Mo_dsaKeys_522 ⟨(by omega), (by omega)⟩ ?_
      refine ax_aald (b := 205 + (20 + i).toNat) d_Mo_dsaKeys_523 ⟨by rw [(k_204 S)]; decide, by rw [(k_204 S)]; decide⟩ (by omega) (by rw [n_204 S]; omega) (g_204 S (by omega) (by omega)) ?_
      refine aw_sipush d_Mo_dsaKeys_524 ⟨by decide, by decide⟩ (by decide) ?_
      refine aw_bipush d_Mo_dsaKeys_527 ⟨by decide, by decide⟩ (by decide) ?_
      refine ax_Vr (st := []) (as := [vr 262, vi 0, vr (205 + (20 + i).toNat), vi 4096, vi 13]) (b := 175) d_Mo_dsaKeys_529 cs_Mo_dsaKeys_529 (k_175 S) (c_Mo_pack (c := 1408 + 416 * i) (d := 13) S ⟨k_262 S, by decide, by decide⟩ ⟨kr_204 S (by omega), by omega, nr_204 S (by omega)⟩ (by omega) (by decide) (by omega) (fun j x y => by rw [F.1 _ _ (by omega) (Or.inl (by omega)), hl i hi.1 (by omega) j x y]; have := kgT_in (s := 1) (g := (fun k => I 178 (0 + k))) (m := i) j x y; show 0 ≤ 4096 - ((kgT 1 (fun k => I 178 (0 + k))) i j - ((kgT 1 (fun k => I 178 (0 + k))) i j + 4096 - 1) / 8192 * 8192) ∧ 4096 - ((kgT 1 (fun k => I 178 (0 + k))) i j - ((kgT 1 (fun k => I 178 (0 + k))) i j + 4096 - 1) / 8192 * 8192) < 2 ^ 13; rw [show (2 ^ 13 : Int) = 8192 by decide]; omega) (by decide) (by rw [n_262 S]; omega)) rfl rfl rfl (fun u_529 q_529 => ?_)
      obtain ⟨q1, q2, q3⟩ := q_529
      show AW l G M_Mo_dsaKeys P 532 [(5, vi i), (0, vr 175)] [] (sD h u_529 M)
      refine ax_iinc (lv' := [(5, vi (i + 1)), (0, vr 175)]) d_Mo_dsaKeys_532 rfl (by decide) ⟨(by omega), (by omega)⟩ rfl ?_
      refine aw_goto (tgt := 499) d_Mo_dsaKeys_535 (by decide) ?_
      exact ih_499 _ (by omega) (i + 1) u_529 (by omega) (F.tr (FR.bits (p := fun a => a = 262) q1 rfl) (fun a x => ⟨x, x⟩)) (by omega) (fun z x y => by rw [q1 262 _ (Or.inr (by omega)) (Or.inl (by decide))]; exact h1 z x y) (fun z x y => by by_cases v : z < 416 * i; exact (by rw [q1 262 _ (Or.inr (by omega)) (Or.inl (by decide))]; exact h2 z x v); exact (by have y2 := q3 (z - 416 * i) (by omega) (by omega); rw [show (0 + (1408 + 416 * i) + (z - 416 * i) : Int) = 1408 + z by omega] at y2; rw [y2]; show _ = gB (fun j => 4096 - ((kgT 1 (fun k => I 178 (0 + k))) (z / 416) j - ((kgT 1 (fun k => I 178 (0 + k))) (z / 416) j + 4096 - 1) / 8192 * 8192)) 13 (z % 416); rw [show z / 416 = i by omega, show z % 416 = z - 416 * i by omega]; exact congrFun (gB_congr (fun j u v => by rw [F.1 _ _ (by omega) (Or.inl (by omega)), hl i hi.1 (by omega) j u v])) _)) ((q1 175 4 (Or.inl (by decide)) (Or.inr (by decide))).trans c4) rfl
  skip
  refine aw_sub (lv' := [(5, vi 0), (0, vr 175)]) (by simp) ?_
  exact lp_499 _ 0 (a_up K 175 23 11264) (by omega) (FR.b0) (by rw [a_up_at]; rfl) (hb.fr (L := M) (L' := M) (FR.b0 (p := fun _ => False)) (fun z => z) (by decide)) (fun z x y => by omega) (by rw [a_up_ne (Or.inr (by decide))]; exact h4) rfl
set_option maxHeartbeats 2000000 in
set_option maxRecDepth 100000 in
theorem kC1 {l : Launch} {G : a_G} {P : a_R → Hp → Prop} {h : Hp} {I L K M : Nat → Int → Int} (S : Shp h) (n0 : I 186 0 = 32) (R : fR0 qN I L K M) (D : RD K M 1) (hs : HR K 202 0 128 (kgSd 1 (fun k => I 178 (0 + k)))) (hb : HR K 262 0 1408 (fun x => gB (fun j => 4 - (kgYs 1 (fun k => I 178 (0 + k))) (x / 128) j) 4 (x % 128))) (hV : ∀ m, 0 ≤ m → m < 5 → eqQ (K (205 + m.toNat)) (fwd rt ((kgY 1 (fun k => I 178 (0 + k))) m))) (hE : ∀ m, 0 ≤ m → m < 6 → eqQ (K (205 + (5 + m).toNat)) ((kgYs 1 (fun k => I 178 (0 + k))) (5 + m))) (h4 : K 175 4 = 0) (b1 : K 175 23 = 8 * (320 * 0)) (okS : ∀ m, 0 ≤ m → m < pK 1 + pL 1 → (sml (pE 1) (fun x => (kgSd 1 (fun k => I 178 (0 + k))) (32 + x)) m).2.1 = 256) (hP : ∀ r_ h2_, RsR h I L (cKeys 1 (I 186 0) (fun k => I 178 (0 + k))) (fun a => a = 179 ∨ a = 180 ∨ a = 186) (fun v I' _ => v = sSec 1 ∧ ((∀ j, j ≠ 1 → j ≠ 2 → I' 186 j = I 186 j) ∧ I' 186 1 = 32 + 320 * pK 1 ∧ I' 186 2 = sSec 1) ∧ (HR I' 179 0 (32 + 320 * pK 1) (kgPk 1 (fun k => I 178 (0 + k))) ∧ rng (I 179) (I' 179)) ∧ HR I' 180 0 (sSec 1) (kgSk 1 (fun k => I 178 (0 + k))) ∧ rng (I 180) (I' 180)) r_ h2_ → P r_ h2_) : AW l G M_Mo_dsaKeys P 272 [(5, vi 0), (4, vi 11264), (0, vr 175)] [] (sD h K M) := by
  have lp_272 : ∀ (n_ : Nat) (i : Int) (K : Nat → Int → Int) (M : Nat → Int → Int), (0 ≤ i ∧ i ≤ 6) → (fR0 qN I L K M) → (RD K M 1) → (HR K 202 0 128 (kgSd 1 (fun k => I 178 (0 + k)))) → (HR K 262 0 1408 (fun x => gB (fun j => 4 - (kgYs 1 (fun k => I 178 (0 + k))) (x / 128) j) 4 (x % 128))) → (∀ m, 0 ≤ m → m < 5 → eqQ (K (205 + m.toNat)) (fwd rt ((kgY 1 (fun k => I 178 (0 + k))) m))) → (∀ m, 0 ≤ m → m < 6 → eqQ (K (205 + (5 + m).toNat)) ((kgYs 1 (fun k => I 178 (0 + k))) (5 + m))) → (K 175 23 = 8 * (320 * i)) → (HR K 263 0 (320 * i) (fun x => gB (fun j => ((kgT 1 (fun k => I 178 (0 + k))) (x / 320) j + 4096 - 1) / 8192) 10 (x % 320))) → (∀ m, 0 ≤ m → m < i → eqQ (K (205 + (20 + m).toNat)) (fun j => (kgT 1 (fun k => I 178 (0 + k))) m j - ((kgT 1 (fun k => I 178 (0 + k))) m j + 4096 - 1) / 8192 * 8192)) → (K 175 4 = 0) → (∀ m, 0 ≤ m → m < 5 * i → (wide (kgSd 1 (fun k => I 178 (0 + k))) (m % 5) (m / 5)).2.1 = 256) → ((6 - i).toNat) = n_ → AW l G M_Mo_dsaKeys P 272 [(5, vi i), (4, vi 11264), (0, vr 175)] [] (sD h K M) := by
    intro n_
    induction n_ using Nat.strongRecOn with
    | _ n_ ih_272 =>
    intro i K M hi R D hs hb hV hE b1 ho hl h4 okA hm_272
    refine aw_iload d_Mo_dsaKeys_272 rfl ?_
    refine aw_aload_n d_Mo_dsaKeys_274 rfl rfl ?_
    refine ax_getIe (x := 6) d_Mo_dsaKeys_275 fd_Mo_223 (k_175 S) (dr1_26 D) ?_
    refine aw_icmp_ge (tgt := 490) d_Mo_dsaKeys_278 (by decide) (fun c_278 => ?_) (fun c_278 => ?_)
    · skip
      refine aw_sub (lv' := [(4, vi 11264), (0, vr 175)]) (by simp) ?_
      exact kD1 S n0 R D hs hb (by rw [show (1920 : Int) = 320 * i by omega]; exact ho) (fun m a b => hl m a (by omega)) h4 ⟨fun m a b => okA m a (by have b2 : m < 30 := b; omega), okS⟩ hP
    · skip
      refine aw_aload_n d_Mo_dsaKeys_281 rfl rfl ?_
      refine ax_getR (b := 204) d_Mo_dsaKeys_282 fd_Mo_76 (k_175 S) (r_175_28 S) ?_
      refine aw_bipush d_Mo_dsaKeys_285 ⟨by decide, by decide⟩ (by decide) ?_
      refine ax_aald (b := 245) d_Mo_dsaKeys_287 ⟨by rw [(k_204 S)]; decide, by rw [(k_204 S)]; decide⟩ (by omega) (by rw [n_204 S]; omega) (g_204 S (j := 40) (by decide) (by decide)) ?_
      refine ax_S (st := []) (as := [vr 245]) (v := none) (h' := sD h (rowTo K 245 256 (fun _ => 0)) M) d_Mo_dsaKeys_288 cs_Mo_dsaKeys_288 (c_Mo_clear ⟨k_245 S, by decide, n_245 S⟩) rfl rfl rfl ?_
      show AW l G M_Mo_dsaKeys P 291 [(5, vi i), (4, vi 11264), (0, vr 175)] [] (sD h (rowTo K 245 256 (fun _ => 0)) M)
      refine aw_iconst d_Mo_dsaKeys_291 ⟨by decide, by decide⟩ ?_
      refine aw_istore (lv' := [(6, vi 0), (5, vi i), (4, vi 11264), (0, vr 175)]) d_Mo_dsaKeys_292 (by decide) rfl ?_
      have lp_294 : ∀ (n_ : Nat) (j : Int) (K2 : Nat → Int → Int) (M2 : Nat → Int → Int), (0 ≤ j ∧ j ≤ 5) → (FR (fun a => a = 245 ∨ a = 246) K M K2 M2) → (eqQ (K2 245) (fun c => pS (kgA 1 (fun k => I 178 (0 + k))) (fun j => fwd rt ((kgY 1 (fun k => I 178 (0 + k))) j)) (i * 5) c j.toNat % 8380417)) → (∀ m, 0 ≤ m → m < j → (wide (kgSd 1 (fun k => I 178 (0 + k))) m i).2.1 = 256) → (K2 175 4 = 0) → (K2 175 23 = 8 * (320 * i)) → ((5 - j).toNat) = n_ → AW l G M_Mo_dsaKeys P 294 [(6, vi j), (5, vi i), (4, vi 11264), (0, vr 175)] [] (sD h K2 M2) := by
        intro n_
        induction n_ using Nat.strongRecOn with
        | _ n_ ih_294 =>
        intro j K2 M2 hj F r2 okJ c4 b3 hm_294
        have hs2 := hs.fr F (by decide) (by decide)
        have D2 := D.fr F (by decide)
        refine aw_iload d_Mo_dsaKeys_294 rfl ?_
        refine aw_aload_n d_Mo_dsaKeys_296 rfl rfl ?_
        refine ax_getIe (x := 5) d_Mo_dsaKeys_297 fd_Mo_226 (k_175 S) (Eq.trans (F.1 175 32 (by omega) (Or.inr (by decide))) (dr1_32 D)) ?_
        refine aw_icmp_ge (tgt := 363) d_Mo_dsaKeys_300 (by decide) (fun c_300 => ?_) (fun c_300 => ?_)
        · skip
          refine aw_aload_n d_Mo_dsaKeys_363 rfl rfl ?_
          refine aw_aload_n d_Mo_dsaKeys_364 rfl rfl ?_
          refine ax_getR (b := 204) d_Mo_dsaKeys_365 fd_Mo_76 (k_175 S) (r_175_28 S) ?_
          refine aw_bipush d_Mo_dsaKeys_368 ⟨by decide, by decide⟩ (by decide) ?_
          refine ax_aald (b := 245) d_Mo_dsaKeys_370 ⟨by rw [(k_204 S)]; decide, by rw [(k_204 S)]; decide⟩ (by omega) (by rw [n_204 S]; omega) (g_204 S (j := 40) (by decide) (by decide)) ?_
          refine ax_Vr (st := []) (as := [vr 245]) (b := 175) d_Mo_dsaKeys_371 cs_Mo_dsaKeys_371 (k_175 S) (c_Mo_interpolate S ⟨k_245 S, by decide, n_245 S⟩ (by decide) (fun x a b => by rw [r2 x a b]; show 0 ≤ _ % 8380417 ∧ _ % 8380417 < 8380417; exact ⟨Int.emod_nonneg _ (by decide), Int.emod_lt_of_pos _ (by decide)⟩) D2.2.2) rfl rfl rfl (fun u_371 q_371 => ?_)
          have hl5 := q_371
          have r4 : eqQ ((rowTo K2 245 256 (itp (K2 245))) 245) (bck rt (fun c => pS (kgA 1 (fun k => I 178 (0 + k))) (fun j => fwd rt ((kgY 1 (fun k => I 178 (0 + k))) j)) (i * 5) c 5 % 8380417)) := fun x a b => by rw [rowTo_in a b, bck_itp a b]; exact itp_cq (fun k hk => cq.e (by rw [r2 k (by omega) (by omega), show j.toNat = 5 by omega]))
          show AW l G M_Mo_dsaKeys P 374 [(6, vi j), (5, vi i), (4, vi 11264), (0, vr 175)] [] (sD h (rowTo K2 245 256 (itp (K2 245))) u_371)
          refine aw_iconst d_Mo_dsaKeys_374 ⟨by decide, by decide⟩ ?_
          refine aw_istore (lv' := [(6, vi 0), (5, vi i), (4, vi 11264), (0, vr 175)]) d_Mo_dsaKeys_375 (by decide) rfl ?_
          have lp_377 : ∀ (n_ : Nat) (c : Int) (K4 : Nat → Int → Int), (0 ≤ c ∧ c ≤ 256) → (FR (fun a => a = 263 ∨ a = 205 + (20 + i).toNat) (rowTo K2 245 256 (itp (K2 245))) u_371 K4 u_371) → (∀ a j, (a ≠ 263 ∨ j < 0 + 320 * i) → (a ≠ 175 ∨ j ≠ 23) → a ≠ 205 + (20 + i).toNat → K4 a j = (rowTo K2 245 256 (itp (K2 245))) a j) → (K4 175 23 = 8 * (320 * i) + 10 * c) → (bIn (K4 263) (0 + 320 * i) (bV (fun j => ((kgT 1 (fun k => I 178 (0 + k))) i j + 4096 - 1) / 8192) 10 c.toNat) (10 * c.toNat)) → (∀ j, 0 ≤ j → j < c → K4 (205 + (20 + i).toNat) j = (fun j => (kgT 1 (fun k => I 178 (0 + k))) i j - ((kgT 1 (fun k => I 178 (0 + k))) i j + 4096 - 1) / 8192 * 8192) j) → ((256 - c).toNat) = n_ → AW l G M_Mo_dsaKeys P 377 [(6, vi c), (5, vi i), (4, vi 11264), (0, vr 175)] [] (sD h K4 u_371) := by
            intro n_
            induction n_ using Nat.strongRecOn with
            | _ n_ ih_377 =>
            intro c K4 hc Fc f1 b2 g1 lw hm_377
            have r5 : c < 256 → K4 245 c = bck rt (fun c => pS (kgA 1 (fun k => I 178 (0 + k))) (fun j => fwd rt ((kgY 1 (fun k => I 178 (0 + k))) j)) (i * 5) c 5 % 8380417) c := fun v => by rw [f1 245 c (Or.inl (by decide)) (Or.inl (by decide)) (by omega)]; exact r4 c hc.1 v
            have r6 : c < 256 → K4 (205 + (5 + i).toNat) c = (kgYs 1 (fun k => I 178 (0 + k))) (5 + i) c := fun v => by rw [f1 _ c (Or.inl (by omega)) (Or.inl (by omega)) (by omega), rowTo_ne (by omega), F.1 _ c (by omega) (Or.inl (by omega))]; exact hE i hi.1 (by omega) c hc.1 v
            refine aw_iload d_Mo_dsaKeys_377 rfl ?_
            refine aw_sipush d_Mo_dsaKeys_379 ⟨by decide, by decide⟩ (by decide) ?_
            refine aw_icmp_ge (tgt := 484) d_Mo_dsaKeys_382 (by decide) (fun c_382 => ?_) (fun c_382 => ?_)
            · skip
              refine ax_iinc (lv' := [(5, vi (i + 1)), (6, vi c), (4, vi 11264), (0, vr 175)]) d_Mo_dsaKeys_484 rfl (by decide) ⟨(by omega), (by omega)⟩ rfl ?_
              refine aw_goto (tgt := 272) d_Mo_dsaKeys_487 (by decide) ?_
              refine aw_sub (lv' := [(5, vi (i + 1)), (4, vi 11264), (0, vr 175)]) (by simp) ?_
              exact ih_272 _ (by omega) (i + 1) K4 u_371 (by omega) (fR0.fr (fR0.fr (fR0.fr R F (r := qN) (by intro a x y; exact ⟨fun z => z, by omega⟩) (by decide)) (FR.row (p := fun a => a = 245) rfl hl5) (r := qN) (by intro a x y; exact ⟨fun z => z, by omega⟩) (by decide)) (Fc : FR (fun a => a = 263 ∨ a = 205 + (20 + i).toNat) _ _ _ _) (by intro a x y; exact ⟨fun z => z, by omega⟩) (by omega)) (((D.fr F (by decide)).fr (FR.row (p := fun a => a = 245) rfl hl5) (by decide)).fr Fc (by omega)) (((hs.fr F (by decide) (by decide)).fr (FR.row (p := fun a => a = 245) rfl hl5) (by decide) (by decide)).fr Fc (by omega) (by decide)) (((hb.fr F (by decide) (by decide)).fr (FR.row (p := fun a => a = 245) rfl hl5) (by decide) (by decide)).fr Fc (by omega) (by decide)) (fun m a b j x y => by rw [Fc.1 _ _ (by omega) (Or.inl (by omega)), rowTo_ne (by omega), F.1 _ _ (by omega) (Or.inl (by omega))]; exact hV m a b j x y) (fun m a b j x y => by rw [Fc.1 _ _ (by omega) (Or.inl (by omega)), rowTo_ne (by omega), F.1 _ _ (by omega) (Or.inl (by omega))]; exact hE m a b j x y) (by omega) (fun z x y => by by_cases v : z < 320 * i; exact (by rw [f1 263 _ (Or.inr (by omega)) (Or.inl (by decide)) (by omega), rowTo_ne (by decide), F.1 _ _ (by decide) (Or.inl (by decide))]; exact ho z x v); exact (by have y2 := gB_of (by have w_ := g1; rw [show c.toNat = 256 by omega] at w_; exact w_) (z - 320 * i) (by omega) (by omega); rw [show (0 + 320 * i + (z - 320 * i) : Int) = 0 + z by omega] at y2; rw [y2]; show _ = gB (fun j => ((kgT 1 (fun k => I 178 (0 + k))) (z / 320) j + 4096 - 1) / 8192) 10 (z % 320); rw [show z / 320 = i by omega, show z % 320 = z - 320 * i by omega])) (fun m a b j x y => by by_cases v : m = i; exact (by rw [v]; exact lw j x (by omega)); exact (by rw [Fc.1 _ _ (by omega) (Or.inl (by omega)), rowTo_ne (by omega), F.1 _ _ (by omega) (Or.inl (by omega))]; exact hl m a (by omega) j x y)) (by rw [f1 175 4 (Or.inl (by decide)) (Or.inr (by decide)) (by omega), rowTo_ne (by decide)]; exact c4) (fun m a b => by by_cases v : m < 5 * i; exact okA m a v; exact (by have w_ := okJ (m - 5 * i) (by omega) (by omega); rw [show m % 5 = m - 5 * i by omega, show m / 5 = i by omega]; exact w_)) rfl
            · skip
              have q5 := bck_in (R := rt) (F := (fun c => pS (kgA 1 (fun k => I 178 (0 + k))) (fun j => fwd rt ((kgY 1 (fun k => I 178 (0 + k))) j)) (i * 5) c 5 % 8380417)) c hc.1 (by omega)
              have q6 := kgYs_b (s := 1) (g := (fun k => I 178 (0 + k))) (m := 5 + i) (j := c)
              rw [show pE 1 = 4 from rfl] at q6
              have q7 := kgT_in (s := 1) (g := (fun k => I 178 (0 + k))) (m := i) c hc.1 (by omega)
              refine aw_aload_n d_Mo_dsaKeys_385 rfl rfl ?_
              refine ax_getR (b := 204) d_Mo_dsaKeys_386 fd_Mo_76 (k_175 S) (r_175_28 S) ?_
              refine aw_bipush d_Mo_dsaKeys_389 ⟨by decide, by decide⟩ (by decide) ?_
              refine ax_aald (b := 245) d_Mo_dsaKeys_391 ⟨by rw [(k_204 S)]; decide, by rw [(k_204 S)]; decide⟩ (by omega) (by rw [n_204 S]; omega) (g_204 S (j := 40) (by decide) (by decide)) ?_
              refine aw_iload d_Mo_dsaKeys_392 rfl ?_
              refine ax_ialde (x := bck rt (fun c => pS (kgA 1 (fun k => I 178 (0 + k))) (fun j => fwd rt ((kgY 1 (fun k => I 178 (0 + k))) j)) (i * 5) c 5 % 8380417) c) d_Mo_dsaKeys_394 (k_245 S) (by omega) (by rw [n_245 S]; omega) (r5 (by omega)) ?_
              refine aw_aload_n d_Mo_dsaKeys_395 rfl rfl ?_
              refine ax_getR (b := 204) d_Mo_dsaKeys_396 fd_Mo_76 (k_175 S) (r_175_28 S) ?_
              refine aw_aload_n d_Mo_dsaKeys_399 rfl rfl ?_
              refine ax_getIe (x := 5) d_Mo_dsaKeys_400 fd_Mo_226 (k_175 S) (Eq.trans (f1 175 32 (Or.inl (by decide)) (Or.inr (by decide)) (by omega)) (Eq.trans (rowTo_ne (by decide)) (Eq.trans (F.1 175 32 (by omega) (Or.inr (by decide))) (dr1_32 D)))) ?_
              refine aw_iload d_Mo_dsaKeys_403 rfl ?_
              refine ax_iadd d_Mo_dsaKeys_405 ⟨(by omega), (by omega)⟩ ?_
              refine ax_aald (b := 205 + (5 + i).toNat) d_Mo_dsaKeys_406 ⟨by rw [(k_204 S)]; decide, by rw [(k_204 S)]; decide⟩ (by omega) (by rw [n_204 S]; omega) (g_204 S (by omega) (by omega)) ?_
              refine aw_iload d_Mo_dsaKeys_407 rfl ?_
              refine ax_ialde (x := (kgYs 1 (fun k => I 178 (0 + k))) (5 + i) c) d_Mo_dsaKeys_409 (kr_204 S (by omega)) (by omega) (by rw [nr_204 S (by omega)]; omega) (r6 (by omega)) ?_
              refine ax_iadd d_Mo_dsaKeys_410 ⟨(by omega), (by omega)⟩ ?_
              refine aw_ldcw (n := 8380417) d_Mo_dsaKeys_411 lc_Mo_264 ⟨by decide, by decide⟩ ?_
              refine ax_iadd d_Mo_dsaKeys_414 ⟨(by omega), (by omega)⟩ ?_
              refine aw_ldcw (n := 8380417) d_Mo_dsaKeys_415 lc_Mo_264 ⟨by decide, by decide⟩ ?_
              refine ax_irem d_Mo_dsaKeys_418 (by omega) (by omega) ?_
              refine ax_ti (x := (kgT 1 (fun k => I 178 (0 + k))) i c) (by unfold kgT; rw [show pL 1 = 5 from rfl, kgY_Ys, show (5 : Int).toNat = 5 from rfl]; omega) ?_
              refine aw_istore (lv' := [(7, vi ((kgT 1 (fun k => I 178 (0 + k))) i c)), (6, vi c), (5, vi i), (4, vi 11264), (0, vr 175)]) d_Mo_dsaKeys_419 (by decide) rfl ?_
              refine aw_iload d_Mo_dsaKeys_421 rfl ?_
              refine aw_sipush d_Mo_dsaKeys_423 ⟨by decide, by decide⟩ (by decide) ?_
              refine ax_irem d_Mo_dsaKeys_426 (by omega) (by omega) ?_
              refine aw_istore (lv' := [(8, vi (((kgT 1 (fun k => I 178 (0 + k))) i c) % 8192)), (7, vi ((kgT 1 (fun k => I 178 (0 + k))) i c)), (6, vi c), (5, vi i), (4, vi 11264), (0, vr 175)]) d_Mo_dsaKeys_427 (by decide) rfl ?_
              refine aw_iload d_Mo_dsaKeys_429 rfl ?_
              refine aw_sipush d_Mo_dsaKeys_431 ⟨by decide, by decide⟩ (by decide) ?_
              refine aw_icmp_le (tgt := 443) d_Mo_dsaKeys_434 (by decide) (fun c_434 => ?_) (fun c_434 => ?_)
              · skip
                refine aw_aload_n d_Mo_dsaKeys_443 rfl rfl ?_
                refine ax_getR (b := 204) d_Mo_dsaKeys_444 fd_Mo_76 (k_175 S) (r_175_28 S) ?_
                refine aw_bipush d_Mo_dsaKeys_447 ⟨by decide, by decide⟩ (by decide) ?_
                refine aw_iload d_Mo_dsaKeys_449 rfl ?_
                refine ax_iadd d_Mo_dsaKeys_451 ⟨(by omega), (by omega)⟩ ?_
                refine ax_aald (b := 205 + (20 + i).toNat) d_Mo_dsaKeys_452 ⟨by rw [(k_204 S)]; decide, by rw [(k_204 S)]; decide⟩ (by omega) (by rw [n_204 S]; omega) (g_204 S (by omega) (by omega)) ?_
                refine aw_iload d_Mo_dsaKeys_453 rfl ?_
                refine aw_iload d_Mo_dsaKeys_455 rfl ?_
                refine ax_iast d_Mo_dsaKeys_457 (kr_204 S (by omega)) (by omega) (by omega) (by rw [nr_204 S (by omega)]; omega) ?_
                have tv : ((kgT 1 (fun k => I 178 (0 + k))) i c - (((kgT 1 (fun k => I 178 (0 + k))) i c) % 8192)) / 8192 = ((kgT 1 (fun k => I 178 (0 + k))) i c + 4096 - 1) / 8192 := by omega
                refine aw_aload_n d_Mo_dsaKeys_458 rfl rfl ?_
                refine aw_aload_n d_Mo_dsaKeys_459 rfl rfl ?_
                refine ax_getR (b := 263) d_Mo_dsaKeys_460 fd_Mo_87 (k_175 S) (r_175_31 S) ?_
                refine aw_iconst d_Mo_dsaKeys_463 ⟨by decide, by decide⟩ ?_
                refine aw_iload d_Mo_dsaKeys_464 rfl ?_
                refine aw_iload d_Mo_dsaKeys_466 rfl ?_
                refine ax_isub d_Mo_dsaKeys_468 ⟨(by omega), (by omega)⟩ ?_
                refine aw_sipush d_Mo_dsaKeys_469 ⟨by decide, by decide⟩ (by decide) ?_
                refine ax_idiv d_Mo_dsaKeys_472 ⟨(by omega), (by omega)⟩ (by omega) ?_
                refine aw_bipush d_Mo_dsaKeys_473 ⟨by decide, by decide⟩ (by decide) ?_
                refine ax_Vr (st := []) (as := [vr 263, vi 0, vi ((((kgT 1 (fun k => I 178 (0 + k))) i c) - (((kgT 1 (fun k => I 178 (0 + k))) i c) % 8192)) / 8192), vi 10]) (b := 175) d_Mo_dsaKeys_475 cs_Mo_dsaKeys_475 (k_175 S) (c_Mo_putBits (q := 10 * c.toNat) (V := bV (fun j => ((kgT 1 (fun k => I 178 (0 + k))) i j + 4096 - 1) / 8192) 10 c.toNat) (c := 320 * i) (d := 10) S ⟨k_263 S, by decide, by decide⟩ (by decide) (by rw [tv, show (2 ^ 10 : Int) = 1024 by decide]; omega) (by rw [a_up_ne (Or.inl (by omega))]; omega) (by rw [show (a_up K4 (205 + (20 + i).toNat) c _ : Nat → Int → Int) 263 = K4 263 from funext (fun z => a_up_ne (Or.inl (by omega)))]; exact g1) (by rw [n_263 S]; omega)) rfl rfl rfl (fun u_475 q_475 => ?_)
                obtain ⟨q1, q2, q3⟩ := q_475
                show AW l G M_Mo_dsaKeys P 478 [(8, vi (((kgT 1 (fun k => I 178 (0 + k))) i c) % 8192)), (7, vi ((kgT 1 (fun k => I 178 (0 + k))) i c)), (6, vi c), (5, vi i), (4, vi 11264), (0, vr 175)] [] (sD h u_475 u_371)
                refine ax_iinc (lv' := [(6, vi (c + 1)), (8, vi (((kgT 1 (fun k => I 178 (0 + k))) i c) % 8192)), (7, vi ((kgT 1 (fun k => I 178 (0 + k))) i c)), (5, vi i), (4, vi 11264), (0, vr 175)]) d_Mo_dsaKeys_478 rfl (by decide) ⟨(by omega), (by omega)⟩ rfl ?_
                refine aw_goto (tgt := 377) d_Mo_dsaKeys_481 (by decide) ?_
                refine aw_sub (lv' := [(6, vi (c + 1)), (5, vi i), (4, vi 11264), (0, vr 175)]) (by simp) ?_
                exact ih_377 _ (by omega) (c + 1) u_475 (by omega) ((Fc.tr (FR.up (p := fun a => a = 205 + (20 + i).toNat) rfl) (r := fun a => a = 263 ∨ a = 205 + (20 + i).toNat) (by intro a x; omega)).tr (FR.bits (p := fun a => a = 263) q1 rfl) (by intro a x; omega)) (fun a j x y z => (q1 a j x y).trans ((a_up_ne (Or.inl z)).trans (f1 a j x y z))) (by omega) (by rw [show (c + 1).toNat = c.toNat + 1 by omega]; show bIn _ _ (bV (fun j => ((kgT 1 (fun k => I 178 (0 + k))) i j + 4096 - 1) / 8192) 10 c.toNat + ((kgT 1 (fun k => I 178 (0 + k))) i (c.toNat : Int) + 4096 - 1) / 8192 * 2 ^ (10 * c.toNat)) _; rw [Int.toNat_of_nonneg hc.1, ← tv]; exact q3) (fun j a b => by rw [q1 _ j (Or.inl (by omega)) (Or.inl (by omega))]; by_cases v : j = c; exact (by rw [v, a_up_at]; show _ = (kgT 1 (fun k => I 178 (0 + k))) i c - ((kgT 1 (fun k => I 178 (0 + k))) i c + 4096 - 1) / 8192 * 8192; omega); exact (by rw [a_up_ne (Or.inr v)]; exact lw j a (by omega))) rfl
              · skip
                refine ax_iincW (lv' := [(8, vi (((kgT 1 (fun k => I 178 (0 + k))) i c) % 8192 + (-8192))), (7, vi ((kgT 1 (fun k => I 178 (0 + k))) i c)), (6, vi c), (5, vi i), (4, vi 11264), (0, vr 175)]) d_Mo_dsaKeys_437 rfl (by decide) ⟨(by omega), (by omega)⟩ rfl ?_
                refine aw_aload_n d_Mo_dsaKeys_443 rfl rfl ?_
                refine ax_getR (b := 204) d_Mo_dsaKeys_444 fd_Mo_76 (k_175 S) (r_175_28 S) ?_
                refine aw_bipush d_Mo_dsaKeys_447 ⟨by decide, by decide⟩ (by decide) ?_
                refine aw_iload d_Mo_dsaKeys_449 rfl ?_
                refine ax_iadd d_Mo_dsaKeys_451 ⟨(by omega), (by omega)⟩ ?_
                refine ax_aald (b := 205 + (20 + i).toNat) d_Mo_dsaKeys_452 ⟨by rw [(k_204 S)]; decide, by rw [(k_204 S)]; decide⟩ (by omega) (by rw [n_204 S]; omega) (g_204 S (by omega) (by omega)) ?_
                refine aw_iload d_Mo_dsaKeys_453 rfl ?_
                refine aw_iload d_Mo_dsaKeys_455 rfl ?_
                refine ax_iast d_Mo_dsaKeys_457 (kr_204 S (by omega)) (by omega) (by omega) (by rw [nr_204 S (by omega)]; omega) ?_
                have tv : ((kgT 1 (fun k => I 178 (0 + k))) i c - (((kgT 1 (fun k => I 178 (0 + k))) i c) % 8192 + (-8192))) / 8192 = ((kgT 1 (fun k => I 178 (0 + k))) i c + 4096 - 1) / 8192 := by omega
                refine aw_aload_n d_Mo_dsaKeys_458 rfl rfl ?_
                refine aw_aload_n d_Mo_dsaKeys_459 rfl rfl ?_
                refine ax_getR (b := 263) d_Mo_dsaKeys_460 fd_Mo_87 (k_175 S) (r_175_31 S) ?_
                refine aw_iconst d_Mo_dsaKeys_463 ⟨by decide, by decide⟩ ?_
                refine aw_iload d_Mo_dsaKeys_464 rfl ?_
                refine aw_iload d_Mo_dsaKeys_466 rfl ?_
                refine ax_isub d_Mo_dsaKeys_468 ⟨(by omega), (by omega)⟩ ?_
                refine aw_sipush d_Mo_dsaKeys_469 ⟨by decide, by decide⟩ (by decide) ?_
                refine ax_idiv d_Mo_dsaKeys_472 ⟨(by omega), (by omega)⟩ (by omega) ?_
                refine aw_bipush d_Mo_dsaKeys_473 ⟨by decide, by decide⟩ (by decide) ?_
                refine ax_Vr (st := []) (as := [vr 263, vi 0, vi ((((kgT 1 (fun k => I 178 (0 + k))) i c) - (((kgT 1 (fun k => I 178 (0 + k))) i c) % 8192 + (-8192))) / 8192), vi 10]) (b := 175) d_Mo_dsaKeys_475 cs_Mo_dsaKeys_475 (k_175 S) (c_Mo_putBits (q := 10 * c.toNat) (V := bV (fun j => ((kgT 1 (fun k => I 178 (0 + k))) i j + 4096 - 1) / 8192) 10 c.toNat) (c := 320 * i) (d := 10) S ⟨k_263 S, by decide, by decide⟩ (by decide) (by rw [tv, show (2 ^ 10 : Int) = 1024 by decide]; omega) (by rw [a_up_ne (Or.inl (by omega))]; omega) (by rw [show (a_up K4 (205 + (20 + i).toNat) c _ : Nat → Int → Int) 263 = K4 263 from funext (fun z => a_up_ne (Or.inl (by omega)))]; exact g1) (by rw [n_263 S]; omega)) rfl rfl rfl (fun u_475 q_475 => ?_)
                obtain ⟨q1, q2, q3⟩ := q_475
                show AW l G M_Mo_dsaKeys P 478 [(8, vi (((kgT 1 (fun k => I 178 (0 + k))) i c) % 8192 + (-8192))), (7, vi ((kgT 1 (fun k => I 178 (0 + k))) i c)), (6, vi c), (5, vi i), (4, vi 11264), (0, vr 175)] [] (sD h u_475 u_371)
                refine ax_iinc (lv' := [(6, vi (c + 1)), (8, vi (((kgT 1 (fun k => I 178 (0 + k))) i c) % 8192 + (-8192))), (7, vi ((kgT 1 (fun k => I 178 (0 + k))) i c)), (5, vi i), (4, vi 11264), (0, vr 175)]) d_Mo_dsaKeys_478 rfl (by decide) ⟨(by omega), (by omega)⟩ rfl ?_
                refine aw_goto (tgt := 377) d_Mo_dsaKeys_481 (by decide) ?_
                refine aw_sub (lv' := [(6, vi (c + 1)), (5, vi i), (4, vi 11264), (0, vr 175)]) (by simp) ?_
                exact ih_377 _ (by omega) (c + 1) u_475 (by omega) ((Fc.tr (FR.up (p := fun a => a = 205 + (20 + i).toNat) rfl) (r := fun a => a = 263 ∨ a = 205 + (20 + i).toNat) (by intro a x; omega)).tr (FR.bits (p := fun a => a = 263) q1 rfl) (by intro a x; omega)) (fun a j x y z => (q1 a j x y).trans ((a_up_ne (Or.inl z)).trans (f1 a j x y z))) (by omega) (by rw [show (c + 1).toNat = c.toNat + 1 by omega]; show bIn _ _ (bV (fun j => ((kgT 1 (fun k => I 178 (0 + k))) i j + 4096 - 1) / 8192) 10 c.toNat + ((kgT 1 (fun k => I 178 (0 + k))) i (c.toNat : Int) + 4096 - 1) / 8192 * 2 ^ (10 * c.toNat)) _; rw [Int.toNat_of_nonneg hc.1, ← tv]; exact q3) (fun j a b => by rw [q1 _ j (Or.inl (by omega)) (Or.inl (by omega))]; by_cases v : j = c; exact (by rw [v, a_up_at]; show _ = (kgT 1 (fun k => I 178 (0 + k))) i c - ((kgT 1 (fun k => I 178 (0 + k))) i c + 4096 - 1) / 8192 * 8192; omega); exact (by rw [a_up_ne (Or.inr v)]; exact lw j a (by omega))) rfl
          skip
          exact lp_377 _ 0 (rowTo K2 245 256 (itp (K2 245))) (by omega) (FR.rfl') (fun _ _ _ _ _ => rfl) (by rw [rowTo_ne (by decide), b3]; omega) (⟨⟨Int.le_refl _, by simp [bV]⟩, fun m hm => absurd hm (by simp)⟩) (fun j a b => by omega) rfl
        · skip
          refine aw_aload_n d_Mo_dsaKeys_303 rfl rfl ?_
          refine aw_aload_n d_Mo_dsaKeys_304 rfl rfl ?_
          refine aw_aload_n d_Mo_dsaKeys_305 rfl rfl ?_
          refine ax_getR (b := 204) d_Mo_dsaKeys_306 fd_Mo_76 (k_175 S) (r_175_28 S) ?_
          refine aw_bipush d_Mo_dsaKeys_309 ⟨by decide, by decide⟩ (by decide) ?_
          refine ax_aald (b := 246) d_Mo_dsaKeys_311 ⟨by rw [(k_204 S)]; decide, by rw [(k_204 S)]; decide⟩ (by omega) (by rw [n_204 S]; omega) (g_204 S (j := 41) (by decide) (by decide)) ?_
          refine aw_aload_n d_Mo_dsaKeys_312 rfl rfl ?_
          refine ax_getR (b := 202) d_Mo_dsaKeys_313 fd_Mo_68 (k_175 S) (r_175_25 S) ?_
          refine aw_iconst d_Mo_dsaKeys_316 ⟨by decide, by decide⟩ ?_
          refine aw_iload d_Mo_dsaKeys_317 rfl ?_
          refine aw_iload d_Mo_dsaKeys_319 rfl ?_
          refine ax_Vr (st := [vr 175]) (as := [vr 246, vr 202, vi 0, vi j, vi i]) (b := 175) d_Mo_dsaKeys_321 cs_Mo_dsaKeys_321 (k_175 S) (by have z := c_Mo_sampleWide (l := l) (G := G) (I := K2) (L := M2) (f := 246) (r := 202) (pa := 0) (x := j) (y := i) S D2.1 ⟨k_246 S, by decide, n_246 S⟩ (by decide) ⟨k_202 S, by decide, by decide⟩ (by rw [n_202 S]; decide); rw [wide_HR hs2 (kgSd_m _ _)] at z; exact z) rfl rfl rfl (fun u_321 q_321 => ?_)
          obtain ⟨I3, L3⟩ := u_321
          obtain ⟨f3, r3⟩ := q_321
          dsimp only at f3 r3 ⊢
          by_cases ok_321 : (wide (kgSd 1 (fun k => I 178 (0 + k))) j i).2.1 = 256
          · skip
            rw [if_pos ok_321]
            show AW l G M_Mo_dsaKeys P 324 [(6, vi j), (5, vi i), (4, vi 11264), (0, vr 175)] [vi 1, vr 175] (sD h I3 L3)
            refine aw_iconst d_Mo_dsaKeys_324 ⟨by decide, by decide⟩ ?_
            refine ax_V (st := []) (as := [vi 1, vi 3]) (b := 175) (v := some (vi 1)) (h' := sD h (a_up I3 175 4 0) L3) d_Mo_dsaKeys_325 cs_Mo_dsaKeys_325 (k_175 S) (c_good1 S rfl) rfl rfl rfl ?_
            show AW l G M_Mo_dsaKeys P 328 [(6, vi j), (5, vi i), (4, vi 11264), (0, vr 175)] [vi 1] (sD h (a_up I3 175 4 0) L3)
            refine aw_if_ne (tgt := 333) d_Mo_dsaKeys_328 (by decide) (fun c_328 => ?_) (fun c_328 => False.elim (by omega))
            refine aw_aload_n d_Mo_dsaKeys_333 rfl rfl ?_
            refine ax_getR (b := 204) d_Mo_dsaKeys_334 fd_Mo_76 (k_175 S) (r_175_28 S) ?_
            refine aw_bipush d_Mo_dsaKeys_337 ⟨by decide, by decide⟩ (by decide) ?_
            refine ax_aald (b := 245) d_Mo_dsaKeys_339 ⟨by rw [(k_204 S)]; decide, by rw [(k_204 S)]; decide⟩ (by omega) (by rw [n_204 S]; omega) (g_204 S (j := 40) (by decide) (by decide)) ?_
            refine aw_aload_n d_Mo_dsaKeys_340 rfl rfl ?_
            refine ax_getR (b := 204) d_Mo_dsaKeys_341 fd_Mo_76 (k_175 S) (r_175_28 S) ?_
            refine aw_bipush d_Mo_dsaKeys_344 ⟨by decide, by decide⟩ (by decide) ?_
            refine ax_aald (b := 246) d_Mo_dsaKeys_346 ⟨by rw [(k_204 S)]; decide, by rw [(k_204 S)]; decide⟩ (by omega) (by rw [n_204 S]; omega) (g_204 S (j := 41) (by decide) (by decide)) ?_
            refine aw_aload_n d_Mo_dsaKeys_347 rfl rfl ?_
            refine ax_getR (b := 204) d_Mo_dsaKeys_348 fd_Mo_76 (k_175 S) (r_175_28 S) ?_
            refine aw_iload d_Mo_dsaKeys_351 rfl ?_
            refine ax_aald (b := 205 + j.toNat) d_Mo_dsaKeys_353 ⟨by rw [(k_204 S)]; decide, by rw [(k_204 S)]; decide⟩ (by omega) (by rw [n_204 S]; omega) (g_204 S (by omega) (by omega)) ?_
            refine ax_S (st := []) (as := [vr 245, vr 246, vr (205 + j.toNat)]) (v := none) (h' := sD h (rowTo (a_up I3 175 4 0) 245 256 (fun x => ((a_up I3 175 4 0) 245 x + (a_up I3 175 4 0) 246 x * (a_up I3 175 4 0) (205 + j.toNat) x) % 8380417)) L3) d_Mo_dsaKeys_354 cs_Mo_dsaKeys_354 (c_Mo_addProducts ⟨k_245 S, by decide, n_245 S⟩ ⟨k_246 S, by decide, n_246 S⟩ ⟨kr_204 S (by omega), by omega, nr_204 S (by omega)⟩ (fun x a b => by rw [a_up_ne (Or.inl (by decide)), f3.1 245 x (Or.inl (by decide)) (by decide), r2 x a b]; show 0 ≤ _ % 8380417 ∧ _ % 8380417 < 8380417; exact ⟨Int.emod_nonneg _ (by decide), Int.emod_lt_of_pos _ (by decide)⟩) (fun x a b => by rw [a_up_ne (Or.inl (by decide)), r3 x a (by rw [ok_321]; exact b)]; exact wide_b.2 x) (fun x a b => by rw [a_up_ne (Or.inl (by omega)), f3.1 _ x (Or.inl (by omega)) (by omega), F.1 _ x (by omega) (Or.inl (by omega)), hV j hj.1 (by omega) x a b]; exact fwd_in kgY_in x a b)) rfl rfl rfl ?_
            show AW l G M_Mo_dsaKeys P 357 [(6, vi j), (5, vi i), (4, vi 11264), (0, vr 175)] [] (sD h (rowTo (a_up I3 175 4 0) 245 256 (fun x => ((a_up I3 175 4 0) 245 x + (a_up I3 175 4 0) 246 x * (a_up I3 175 4 0) (205 + j.toNat) x) % 8380417)) L3)
            refine ax_iinc (lv' := [(6, vi (j + 1)), (5, vi i), (4, vi 11264), (0, vr 175)]) d_Mo_dsaKeys_357 rfl (by decide) ⟨(by omega), (by omega)⟩ rfl ?_
            refine aw_goto (tgt := 294) d_Mo_dsaKeys_360 (by decide) ?_
            exact ih_294 _ (by omega) (j + 1) (rowTo (a_up I3 175 4 0) 245 256 (fun x => ((a_up I3 175 4 0) 245 x + (a_up I3 175 4 0) 246 x * (a_up I3 175 4 0) (205 + j.toNat) x) % 8380417)) L3 (by omega) (((F.tr (FR.smp (p := fun a => a = 246) f3 rfl) (r := fun a => a = 245 ∨ a = 246) (by intro a x; omega)).tr (FR.c0 (p := fun _ => False)) (r := fun a => a = 245 ∨ a = 246) (by intro a x; exact ⟨x, fun z => z⟩)).tr (FR.row (p := fun a => a = 245) rfl (fun _ _ _ => rfl)) (by intro a x; omega)) (fun x a b => by rw [rowTo_in a b, a_up_ne (Or.inl (by decide)), a_up_ne (Or.inl (by decide)), a_up_ne (Or.inl (by omega)), f3.1 245 x (Or.inl (by decide)) (by decide), r2 x a b, r3 x a (by rw [ok_321]; exact b), f3.1 _ x (Or.inl (by omega)) (by omega), F.1 _ x (by omega) (Or.inl (by omega)), hV j hj.1 (by omega) x a b, show (j + 1).toNat = j.toNat + 1 by omega]; show _ = (pS (kgA 1 (fun k => I 178 (0 + k))) (fun j => fwd rt ((kgY 1 (fun k => I 178 (0 + k))) j)) (i * 5) x j.toNat + (kgA 1 (fun k => I 178 (0 + k))) (i * 5 + (j.toNat : Int)) x * (fwd rt ((kgY 1 (fun k => I 178 (0 + k))) (j.toNat : Int)) x)) % 8380417; rw [Int.toNat_of_nonneg hj.1, show (kgA 1 (fun k => I 178 (0 + k))) (i * 5 + j) x = (wide (kgSd 1 (fun k => I 178 (0 + k))) j i).2.2 x from by unfold kgA; rw [show pL 1 = 5 from rfl, show (i * 5 + j) % 5 = j by omega, show (i * 5 + j) / 5 = i by omega]]; exact Int.emod_add_emod _ _ _) (fun m a b => by by_cases z : m = j; exact (by rw [z]; exact ok_321); exact okJ m a (by omega)) (by rw [rowTo_ne (by decide), a_up_at]) (by rw [rowTo_ne (by decide), a_up_ne (Or.inr (by decide)), f3.1 175 23 (Or.inr (by decide)) (by decide)]; exact b3) rfl
          · skip
            rw [if_neg ok_321]
            show AW l G M_Mo_dsaKeys P 324 [(6, vi j), (5, vi i), (4, vi 11264), (0, vr 175)] [vi 0, vr 175] (sD h I3 L3)
            refine aw_iconst d_Mo_dsaKeys_324 ⟨by decide, by decide⟩ ?_
            refine ax_V (st := []) (as := [vi 0, vi 3]) (b := 175) (v := some (vi 0)) (h' := sD h (a_up I3 175 4 3) L3) d_Mo_dsaKeys_325 cs_Mo_dsaKeys_325 (k_175 S) (c_good0 S rfl) rfl rfl rfl ?_
            show AW l G M_Mo_dsaKeys P 328 [(6, vi j), (5, vi i), (4, vi 11264), (0, vr 175)] [vi 0] (sD h (a_up I3 175 4 3) L3)
            refine aw_if_ne (tgt := 333) d_Mo_dsaKeys_328 (by decide) (fun c_328 => False.elim (by omega)) (fun c_328 => ?_)
            refine aw_iconst d_Mo_dsaKeys_331 ⟨by decide, by decide⟩ ?_
            exact aw_iret d_Mo_dsaKeys_332 rfl (hP _ _ (rsNo 0 3 (cKeys_3 (by decide) n0 (fun z => ok_321 (by have y := z.1 (i * 5 + j) (by omega) (by show i * 5 + j < 30; omega); rw [show pL 1 = 5 from rfl, show (i * 5 + j) % 5 = j by omega, show (i * 5 + j) / 5 = i by omega] at y; exact y))) (by decide) a_up_at (fR0.fr (fR0.fr (fR0.fr R F (r := qN) (by intro a x y; exact ⟨fun z => z, by omega⟩) (by decide)) (FR.smp (p := fun a => a = 246) f3 rfl) (r := qN) (by intro a x y; exact ⟨fun z => z, by omega⟩) (by decide)) (FR.c0 (p := fun _ => False)) (by intro a x y; exact ⟨fun z => z, fun z => z⟩) (fun z => z))))
      skip
      exact lp_294 _ 0 (rowTo K 245 256 (fun _ => 0)) M (by omega) (FR.row (p := fun a => a = 245 ∨ a = 246) (by omega) (fun _ _ _ => rfl)) (fun x a b => by rw [rowTo_in a b]; rfl) (fun m a b => by omega) (by rw [rowTo_ne (by decide)]; exact h4) (by rw [rowTo_ne (by decide)]; exact b1) rfl
  exact lp_272 _ 0 K M (by omega) (R) (D) (hs) (hb) (hV) (hE) (b1) (fun z x y => by omega) (fun m a b => by omega) (h4) (fun m a b => by omega) rfl
set_option maxHeartbeats 2000000 in
set_option maxRecDepth 100000 in
theorem kB1 {l : Launch} {G : a_G} {P : a_R → Hp → Prop} {h : Hp} {I L K M : Nat → Int → Int} (S : Shp h) (n0 : I 186 0 = 32) (R0 : fR0 qN I L K M) (D : RD K M 1) (hs : HR K 202 0 128 (kgSd 1 (fun k => I 178 (0 + k)))) (hY : ∀ m, 0 ≤ m → m < 11 → eqQ (K (205 + m.toNat)) ((kgYs 1 (fun k => I 178 (0 + k))) m)) (h4 : K 175 4 = 0) (okS : ∀ m, 0 ≤ m → m < pK 1 + pL 1 → (sml (pE 1) (fun x => (kgSd 1 (fun k => I 178 (0 + k))) (32 + x)) m).2.1 = 256) (hP : ∀ r_ h2_, RsR h I L (cKeys 1 (I 186 0) (fun k => I 178 (0 + k))) (fun a => a = 179 ∨ a = 180 ∨ a = 186) (fun v I' _ => v = sSec 1 ∧ ((∀ j, j ≠ 1 → j ≠ 2 → I' 186 j = I 186 j) ∧ I' 186 1 = 32 + 320 * pK 1 ∧ I' 186 2 = sSec 1) ∧ (HR I' 179 0 (32 + 320 * pK 1) (kgPk 1 (fun k => I 178 (0 + k))) ∧ rng (I 179) (I' 179)) ∧ HR I' 180 0 (sSec 1) (kgSk 1 (fun k => I 178 (0 + k))) ∧ rng (I 180) (I' 180)) r_ h2_ → P r_ h2_) : AW l G M_Mo_dsaKeys P 156 [(0, vr 175)] [] (sD h K M) := by
  refine aw_aload_n d_Mo_dsaKeys_156 rfl rfl ?_
  refine ax_getIe (x := 4) d_Mo_dsaKeys_157 fd_Mo_229 (k_175 S) (dr1_33 D) ?_
  refine aw_iconst d_Mo_dsaKeys_160 ⟨by decide, by decide⟩ ?_
  refine aw_icmp_ne (tgt := 168) d_Mo_dsaKeys_161 (by decide) (fun c_161 => ?_) (fun c_161 => False.elim (by omega))
  refine aw_iconst d_Mo_dsaKeys_168 ⟨by decide, by decide⟩ ?_
  refine aw_istore_n (lv' := [(3, vi 4), (0, vr 175)]) d_Mo_dsaKeys_169 rfl (by decide) rfl ?_
  refine aw_aload_n d_Mo_dsaKeys_170 rfl rfl ?_
  refine aw_iconst d_Mo_dsaKeys_171 ⟨by decide, by decide⟩ ?_
  refine ax_putI d_Mo_dsaKeys_172 fd_Mo_216 (k_175 S) (by decide) rfl ?_
  refine aw_iconst d_Mo_dsaKeys_175 ⟨by decide, by decide⟩ ?_
  refine aw_istore (lv' := [(4, vi 0), (3, vi 4), (0, vr 175)]) d_Mo_dsaKeys_176 (by decide) rfl ?_
  have lp_178 : ∀ (n_ : Nat) (i : Int) (K2 : Nat → Int → Int), (0 ≤ i ∧ i ≤ 11) → (FR (fun a => a = 262) K M K2 M) → (K2 175 23 = 8 * (128 * i)) → (HR K2 262 0 (128 * i) (fun x => gB (fun j => 4 - (kgYs 1 (fun k => I 178 (0 + k))) (x / 128) j) 4 (x % 128))) → (K2 175 4 = 0) → ((11 - i).toNat) = n_ → AW l G M_Mo_dsaKeys P 178 [(4, vi i), (3, vi 4), (0, vr 175)] [] (sD h K2 M) := by
    intro n_
    induction n_ using Nat.strongRecOn with
    | _ n_ ih_178 =>
    intro i K2 hi F b1 hb c4 hm_178
    refine aw_iload d_Mo_dsaKeys_178 rfl ?_
    refine aw_aload_n d_Mo_dsaKeys_180 rfl rfl ?_
    refine ax_getIe (x := 5) d_Mo_dsaKeys_181 fd_Mo_226 (k_175 S) (Eq.trans (F.1 175 32 (by omega) (Or.inr (by decide))) (dr1_32 D)) ?_
    refine aw_aload_n d_Mo_dsaKeys_184 rfl rfl ?_
    refine ax_getIe (x := 6) d_Mo_dsaKeys_185 fd_Mo_223 (k_175 S) (Eq.trans (F.1 175 26 (by omega) (Or.inr (by decide))) (dr1_26 D)) ?_
    refine ax_iadd d_Mo_dsaKeys_188 ⟨(by omega), (by omega)⟩ ?_
    refine ax_ti (x := 11) (by decide) ?_
    refine aw_icmp_ge (tgt := 219) d_Mo_dsaKeys_189 (by decide) (fun c_189 => ?_) (fun c_189 => ?_)
    · skip
      refine aw_aload_n d_Mo_dsaKeys_219 rfl rfl ?_
      refine ax_getIe (x := 11264) d_Mo_dsaKeys_220 fd_Mo_216 (k_175 S) (b1.trans (by omega)) ?_
      refine aw_istore (lv' := [(4, vi 11264), (3, vi 4), (0, vr 175)]) d_Mo_dsaKeys_223 (by decide) rfl ?_
      refine aw_iconst d_Mo_dsaKeys_225 ⟨by decide, by decide⟩ ?_
      refine aw_istore (lv' := [(5, vi 0), (4, vi 11264), (3, vi 4), (0, vr 175)]) d_Mo_dsaKeys_226 (by decide) rfl ?_
      have lp_228 : ∀ (n_ : Nat) (j : Int) (K3 : Nat → Int → Int) (M3 : Nat → Int → Int), (0 ≤ j ∧ j ≤ 5) → (FR (fun a => a = 262 ∨ 205 ≤ a ∧ a < 210) K M K3 M3) → (HR K3 262 0 1408 (fun x => gB (fun j => 4 - (kgYs 1 (fun k => I 178 (0 + k))) (x / 128) j) 4 (x % 128))) → (∀ m, 0 ≤ m → m < j → eqQ (K3 (205 + m.toNat)) (fwd rt ((kgY 1 (fun k => I 178 (0 + k))) m))) → (∀ m, 0 ≤ m → j ≤ m → m < 11 → eqQ (K3 (205 + m.toNat)) ((kgYs 1 (fun k => I 178 (0 + k))) m)) → (K3 175 4 = 0) → ((5 - j).toNat) = n_ → AW l G M_Mo_dsaKeys P 228 [(5, vi j), (4, vi 11264), (0, vr 175)] [] (sD h K3 M3) := by
        intro n_
        induction n_ using Nat.strongRecOn with
        | _ n_ ih_228 =>
        intro j K3 M3 hj F3 hb3 dn td c43 hm_228
        refine aw_iload d_Mo_dsaKeys_228 rfl ?_
        refine aw_aload_n d_Mo_dsaKeys_230 rfl rfl ?_
        refine ax_getIe (x := 5) d_Mo_dsaKeys_231 fd_Mo_226 (k_175 S) (Eq.trans (F3.1 175 32 (by omega) (Or.inr (by decide))) (dr1_32 D)) ?_
        refine aw_icmp_ge (tgt := 264) d_Mo_dsaKeys_234 (by decide) (fun c_234 => ?_) (fun c_234 => ?_)
        · skip
          refine aw_aload_n d_Mo_dsaKeys_264 rfl rfl ?_
          refine aw_iconst d_Mo_dsaKeys_265 ⟨by decide, by decide⟩ ?_
          refine ax_putI d_Mo_dsaKeys_266 fd_Mo_216 (k_175 S) (by decide) rfl ?_
          refine aw_iconst d_Mo_dsaKeys_269 ⟨by decide, by decide⟩ ?_
          refine aw_istore (lv' := [(5, vi 0), (4, vi 11264), (0, vr 175)]) d_Mo_dsaKeys_270 (by decide) rfl ?_
          refine aw_sub (lv' := [(5, vi 0), (4, vi 11264), (0, vr 175)]) (by simp) ?_
          exact kC1 S n0 (fR0.fr (fR0.fr R0 F3 (r := qN) (by intro a x y; exact ⟨fun z => z, by omega⟩) (by omega)) (FR.b0 (p := fun _ => False)) (by intro a x y; exact ⟨fun z => z, fun z => z⟩) (fun z => z)) ((D.fr F3 (by omega)).fr (FR.b0 (p := fun _ => False)) ⟨fun z => z, fun z => z, fun z => z⟩) ((hs.fr F3 (by omega) (by decide)).fr (L := M3) (L' := M3) (FR.b0 (p := fun _ => False)) (fun z => z) (by decide)) (hb3.fr (L := M3) (L' := M3) (FR.b0 (p := fun _ => False)) (fun z => z) (by decide)) (fun m a b x u v => by rw [a_up_ne (Or.inl (by omega))]; exact dn m a (by omega) x u v) (fun m a b x u v => by rw [a_up_ne (Or.inl (by omega))]; exact td _ (by omega) (by omega) (by omega) x u v) (by rw [a_up_ne (Or.inr (by decide))]; exact c43) (a_up_at.trans (by decide)) okS hP
        · skip
          refine aw_aload_n d_Mo_dsaKeys_237 rfl rfl ?_
          refine ax_getR (b := 204) d_Mo_dsaKeys_238 fd_Mo_76 (k_175 S) (r_175_28 S) ?_
          refine aw_iload d_Mo_dsaKeys_241 rfl ?_
          refine ax_aald (b := 205 + j.toNat) d_Mo_dsaKeys_243 ⟨by rw [(k_204 S)]; decide, by rw [(k_204 S)]; decide⟩ (by omega) (by rw [n_204 S]; omega) (g_204 S (by omega) (by omega)) ?_
          refine ax_S (st := []) (as := [vr (205 + j.toNat)]) (v := none) (h' := sD h (rowTo K3 (205 + j.toNat) 256 (fun x => (K3 (205 + j.toNat) x + 8380417) % 8380417)) M3) d_Mo_dsaKeys_244 cs_Mo_dsaKeys_244 (c_Mo_positive ⟨kr_204 S (by omega), by omega, nr_204 S (by omega)⟩ (fun x u v => by rw [td j hj.1 (Int.le_refl _) (by omega) x u v]; have q_ := kgYs_b (s := 1) (g := (fun k => I 178 (0 + k))) (m := j) (j := x); rw [show pE 1 = 4 from rfl] at q_; omega)) rfl rfl rfl ?_
          show AW l G M_Mo_dsaKeys P 247 [(5, vi j), (4, vi 11264), (0, vr 175)] [] (sD h (rowTo K3 (205 + j.toNat) 256 (fun x => (K3 (205 + j.toNat) x + 8380417) % 8380417)) M3)
          refine aw_aload_n d_Mo_dsaKeys_247 rfl rfl ?_
          refine aw_aload_n d_Mo_dsaKeys_248 rfl rfl ?_
          refine ax_getR (b := 204) d_Mo_dsaKeys_249 fd_Mo_76 (k_175 S) (r_175_28 S) ?_
          refine aw_iload d_Mo_dsaKeys_252 rfl ?_
          refine ax_aald (b := 205 + j.toNat) d_Mo_dsaKeys_254 ⟨by rw [(k_204 S)]; decide, by rw [(k_204 S)]; decide⟩ (by omega) (by rw [n_204 S]; omega) (g_204 S (by omega) (by omega)) ?_
          refine ax_Vr (st := []) (as := [vr (205 + j.toNat)]) (b := 175) d_Mo_dsaKeys_255 cs_Mo_dsaKeys_255 (k_175 S) (c_Mo_evaluate S ⟨kr_204 S (by omega), by omega, nr_204 S (by omega)⟩ (by omega) (fun x u v => by rw [rowTo_in u v]; omega) (fun x u v => by rw [rowTo_ne (by omega)]; exact (D.fr F3 (by omega)).2.2 x u v)) rfl rfl rfl (fun u_255 q_255 => ?_)
          have hl := q_255
          show AW l G M_Mo_dsaKeys P 258 [(5, vi j), (4, vi 11264), (0, vr 175)] [] (sD h (rowTo (rowTo K3 (205 + j.toNat) 256 (fun x => (K3 (205 + j.toNat) x + 8380417) % 8380417)) (205 + j.toNat) 256 (eva ((rowTo K3 (205 + j.toNat) 256 (fun x => (K3 (205 + j.toNat) x + 8380417) % 8380417)) (205 + j.toNat)))) u_255)
          refine ax_iinc (lv' := [(5, vi (j + 1)), (4, vi 11264), (0, vr 175)]) d_Mo_dsaKeys_258 rfl (by decide) ⟨(by omega), (by omega)⟩ rfl ?_
          refine aw_goto (tgt := 228) d_Mo_dsaKeys_261 (by decide) ?_
          exact ih_228 _ (by omega) (j + 1) (rowTo (rowTo K3 (205 + j.toNat) 256 (fun x => (K3 (205 + j.toNat) x + 8380417) % 8380417)) (205 + j.toNat) 256 (eva ((rowTo K3 (205 + j.toNat) 256 (fun x => (K3 (205 + j.toNat) x + 8380417) % 8380417)) (205 + j.toNat)))) u_255 (by omega) ((F3.tr (FR.row (p := fun a => a = 262 ∨ 205 ≤ a ∧ a < 210) (by omega) (fun _ _ _ => rfl)) (fun a x => ⟨x, x⟩)).tr (FR.row (p := fun a => a = 262 ∨ 205 ≤ a ∧ a < 210) (by omega) hl) (fun a x => ⟨x, x⟩)) ((hb3.fr (L := M3) (L' := M3) (FR.row (p := fun a => a = 205 + j.toNat) rfl (fun _ _ _ => rfl)) (by omega) (by decide)).fr (L := M3) (L' := u_255) (FR.row (p := fun a => a = 205 + j.toNat) rfl hl) (by omega) (by decide)) (fun m a b x u v => by by_cases z : m = j; exact (by rw [z, rowTo_in u v, fwd_eva u v]; exact eva_cq (fun t ht => cq.e (by rw [rowTo_in (by omega) (by omega), td j hj.1 (Int.le_refl _) (by omega) t (by omega) (by omega), kgY_Ys, Int.add_emod_right]))); exact (by rw [rowTo_ne (by omega), rowTo_ne (by omega)]; exact dn m a (by omega) x u v)) (fun m a b c x u v => by rw [rowTo_ne (by omega), rowTo_ne (by omega)]; exact td m a (by omega) c x u v) (by rw [rowTo_ne (by omega), rowTo_ne (by omega)]; exact c43) rfl
      skip
      refine aw_sub (lv' := [(5, vi 0), (4, vi 11264), (0, vr 175)]) (by simp) ?_
      exact lp_228 _ 0 K2 M (by omega) (F.mono (by intro a x; omega)) (by rw [show (1408 : Int) = 128 * i by omega]; exact hb) (fun m a b => by omega) (fun m a b c x y z => by rw [F.1 _ _ (by omega) (Or.inl (by omega))]; exact hY m a c x y z) (c4) rfl
    · skip
      refine aw_aload_n d_Mo_dsaKeys_192 rfl rfl ?_
      refine aw_aload_n d_Mo_dsaKeys_193 rfl rfl ?_
      refine ax_getR (b := 262) d_Mo_dsaKeys_194 fd_Mo_84 (k_175 S) (r_175_30 S) ?_
      refine aw_iconst d_Mo_dsaKeys_197 ⟨by decide, by decide⟩ ?_
      refine aw_aload_n d_Mo_dsaKeys_198 rfl rfl ?_
      refine ax_getR (b := 204) d_Mo_dsaKeys_199 fd_Mo_76 (k_175 S) (r_175_28 S) ?_
      refine aw_iload d_Mo_dsaKeys_202 rfl ?_
      refine ax_aald (b := 205 + i.toNat) d_Mo_dsaKeys_204 ⟨by rw [(k_204 S)]; decide, by rw [(k_204 S)]; decide⟩ (by omega) (by rw [n_204 S]; omega) (g_204 S (by omega) (by omega)) ?_
      refine aw_aload_n d_Mo_dsaKeys_205 rfl rfl ?_
      refine ax_getIe (x := 4) d_Mo_dsaKeys_206 fd_Mo_229 (k_175 S) (Eq.trans (F.1 175 33 (by omega) (Or.inr (by decide))) (dr1_33 D)) ?_
      refine aw_iload_n d_Mo_dsaKeys_209 rfl rfl ?_
      refine ax_Vr (st := []) (as := [vr 262, vi 0, vr (205 + i.toNat), vi 4, vi 4]) (b := 175) d_Mo_dsaKeys_210 cs_Mo_dsaKeys_210 (k_175 S) (c_Mo_pack (c := 128 * i) (d := 4) S ⟨k_262 S, by decide, by decide⟩ ⟨kr_204 S (by omega), by omega, nr_204 S (by omega)⟩ (by omega) (by decide) (by omega) (fun j x y => by rw [F.1 _ _ (by omega) (Or.inl (by omega)), hY i hi.1 (by omega) j x y]; have q_ := kgYs_b (s := 1) (g := (fun k => I 178 (0 + k))) (m := i) (j := j); rw [show pE 1 = 4 from rfl] at q_; omega) (by decide) (by rw [n_262 S]; omega)) rfl rfl rfl (fun u_210 q_210 => ?_)
      obtain ⟨q1, q2, q3⟩ := q_210
      show AW l G M_Mo_dsaKeys P 213 [(4, vi i), (3, vi 4), (0, vr 175)] [] (sD h u_210 M)
      refine ax_iinc (lv' := [(4, vi (i + 1)), (3, vi 4), (0, vr 175)]) d_Mo_dsaKeys_213 rfl (by decide) ⟨(by omega), (by omega)⟩ rfl ?_
      refine aw_goto (tgt := 178) d_Mo_dsaKeys_216 (by decide) ?_
      exact ih_178 _ (by omega) (i + 1) u_210 (by omega) (F.tr (FR.bits (p := fun a => a = 262) q1 rfl) (fun a x => ⟨x, x⟩)) (by omega) (fun z x y => by by_cases v : z < 128 * i; exact (by rw [q1 262 _ (Or.inr (by omega)) (Or.inl (by decide))]; exact hb z x v); exact (by have y2 := q3 (z - 128 * i) (by omega) (by omega); rw [show (0 + 128 * i + (z - 128 * i) : Int) = 0 + z by omega] at y2; rw [y2]; show _ = gB (fun j => 4 - (kgYs 1 (fun k => I 178 (0 + k))) (z / 128) j) 4 (z % 128); rw [show z / 128 = i by omega, show z % 128 = z - 128 * i by omega]; exact congrFun (gB_congr (fun j u v => by rw [F.1 _ _ (by omega) (Or.inl (by omega)), hY i hi.1 (by omega) j u v])) _)) ((q1 175 4 (Or.inl (by decide)) (Or.inr (by decide))).trans c4) rfl
  skip
  exact lp_178 _ 0 (a_up K 175 23 0) (by omega) (FR.b0) (by rw [a_up_at]; rfl) (fun z x y => by omega) (by rw [a_up_ne (Or.inr (by decide))]; exact h4) rfl
set_option maxHeartbeats 800000 in
set_option maxRecDepth 100000 in
theorem c_Mo_dsaKeys1 {l : Launch} {G : a_G} {h : Hp} {I L : Nat → Int → Int} (S : Shp h) (RS : RSt I L) : AW l G M_Mo_dsaKeys (RsR h I L (cKeys 1 (I 186 0) (fun k => I 178 (0 + k))) (fun a => a = 179 ∨ a = 180 ∨ a = 186) (fun v I' _ => v = sSec 1 ∧ ((∀ j, j ≠ 1 → j ≠ 2 → I' 186 j = I 186 j) ∧ I' 186 1 = 32 + 320 * pK 1 ∧ I' 186 2 = sSec 1) ∧ (HR I' 179 0 (32 + 320 * pK 1) (kgPk 1 (fun k => I 178 (0 + k))) ∧ rng (I 179) (I' 179)) ∧ HR I' 180 0 (sSec 1) (kgSk 1 (fun k => I 178 (0 + k))) ∧ rng (I 180) (I' 180))) 0 (a_ar 0 [vr 175, vi 1]) [] (sD h I L) := by
  suffices key : ∀ P : a_R → Hp → Prop, (∀ r_ h2_, RsR h I L (cKeys 1 (I 186 0) (fun k => I 178 (0 + k))) (fun a => a = 179 ∨ a = 180 ∨ a = 186) (fun v I' _ => v = sSec 1 ∧ ((∀ j, j ≠ 1 → j ≠ 2 → I' 186 j = I 186 j) ∧ I' 186 1 = 32 + 320 * pK 1 ∧ I' 186 2 = sSec 1) ∧ (HR I' 179 0 (32 + 320 * pK 1) (kgPk 1 (fun k => I 178 (0 + k))) ∧ rng (I 179) (I' 179)) ∧ HR I' 180 0 (sSec 1) (kgSk 1 (fun k => I 178 (0 + k))) ∧ rng (I 180) (I' 180)) r_ h2_ → P r_ h2_) → AW l G M_Mo_dsaKeys P 0 [(0, vr 175), (1, vi 1)] [] (sD h I L) from key _ (fun _ _ q => q)
  intro P hP
  refine aw_aload_n d_Mo_dsaKeys_0 rfl rfl ?_
  refine aw_iload_n d_Mo_dsaKeys_1 rfl rfl ?_
  refine aw_iconst d_Mo_dsaKeys_2 ⟨by decide, by decide⟩ ?_
  refine aw_iconst d_Mo_dsaKeys_3 ⟨by decide, by decide⟩ ?_
  refine ax_S (st := [vr 175]) (as := [vi 1, vi 0, vi 2]) (v := some (vi 1)) (h' := sD h I L) d_Mo_dsaKeys_4 cs_Mo_dsaKeys_4 (c_in1 (by decide)) rfl rfl rfl ?_
  show AW l G M_Mo_dsaKeys P 7 [(0, vr 175), (1, vi 1)] [vi 1, vr 175] (sD h I L)
  refine aw_iconst d_Mo_dsaKeys_7 ⟨by decide, by decide⟩ ?_
  refine ax_V (st := []) (as := [vi 1, vi 1]) (b := 175) (v := some (vi 1)) (h' := sD h (a_up I 175 4 0) L) d_Mo_dsaKeys_8 cs_Mo_dsaKeys_8 (k_175 S) (c_good1 S (rfl)) rfl rfl rfl ?_
  show AW l G M_Mo_dsaKeys P 11 [(0, vr 175), (1, vi 1)] [vi 1] (sD h (a_up I 175 4 0) L)
  refine aw_if_eq (tgt := 38) d_Mo_dsaKeys_11 (by decide) (fun c_11 => False.elim (by omega)) (fun c_11 => ?_)
  refine aw_aload_n d_Mo_dsaKeys_14 rfl rfl ?_
  refine aw_aload_n d_Mo_dsaKeys_15 rfl rfl ?_
  refine ax_getR (b := 186) d_Mo_dsaKeys_16 fd_Mo_18 (k_175 S) (r_175_2 S) ?_
  refine aw_iconst d_Mo_dsaKeys_19 ⟨by decide, by decide⟩ ?_
  refine ax_ialde (x := I 186 0) d_Mo_dsaKeys_20 (k_186 S) (by omega) (by rw [n_186 S]; omega) (Eq.trans (a_up_ne (Or.inl (by decide))) (rfl)) ?_
  refine aw_bipush d_Mo_dsaKeys_21 ⟨by decide, by decide⟩ (by decide) ?_
  refine aw_icmp_ne (tgt := 30) d_Mo_dsaKeys_23 (by decide) (fun c_23 => ?_) (fun c_23 => ?_)
  · skip
    refine aw_iconst d_Mo_dsaKeys_30 ⟨by decide, by decide⟩ ?_
    refine aw_iconst d_Mo_dsaKeys_31 ⟨by decide, by decide⟩ ?_
    refine ax_V (st := []) (as := [vi 0, vi 2]) (b := 175) (v := some (vi 0)) (h' := sD h (a_up I 175 4 2) L) d_Mo_dsaKeys_32 cs_Mo_dsaKeys_32 (k_175 S) (c_good0 S (by rw [a_up_up])) rfl rfl rfl ?_
    show AW l G M_Mo_dsaKeys P 35 [(0, vr 175), (1, vi 1)] [vi 0] (sD h (a_up I 175 4 2) L)
    refine aw_if_ne (tgt := 40) d_Mo_dsaKeys_35 (by decide) (fun c_35 => False.elim (by omega)) (fun c_35 => ?_)
    refine aw_iconst d_Mo_dsaKeys_38 ⟨by decide, by decide⟩ ?_
    exact aw_iret d_Mo_dsaKeys_39 rfl (hP _ _ (rsNo 0 2 (cKeys_2 (by decide) (by omega)) (by decide) a_up_at (fR0.fr fR0.rfl' (FR.c0 (p := fun _ => False)) (by intro a x y; exact ⟨fun z => z, fun z => z⟩) (fun z => z))))
  · skip
    refine aw_iconst d_Mo_dsaKeys_26 ⟨by decide, by decide⟩ ?_
    refine aw_goto (tgt := 31) d_Mo_dsaKeys_27 (by decide) ?_
    refine aw_iconst d_Mo_dsaKeys_31 ⟨by decide, by decide⟩ ?_
    refine ax_V (st := []) (as := [vi 1, vi 2]) (b := 175) (v := some (vi 1)) (h' := sD h (a_up I 175 4 0) L) d_Mo_dsaKeys_32 cs_Mo_dsaKeys_32 (k_175 S) (c_good1 S (by rw [a_up_up])) rfl rfl rfl ?_
    show AW l G M_Mo_dsaKeys P 35 [(0, vr 175), (1, vi 1)] [vi 1] (sD h (a_up I 175 4 0) L)
    refine aw_if_ne (tgt := 40) d_Mo_dsaKeys_35 (by decide) (fun c_35 => ?_) (fun c_35 => False.elim (by omega))
    refine aw_aload_n d_Mo_dsaKeys_40 rfl rfl ?_
    refine aw_iload_n d_Mo_dsaKeys_41 rfl rfl ?_
    refine ax_Vr (st := []) (as := [vi 1]) (b := 175) d_Mo_dsaKeys_42 cs_Mo_dsaKeys_42 (k_175 S) (c_Mo_dsa1 S) rfl rfl rfl (fun u_42 q_42 => ?_)
    obtain ⟨d1, d2, d3⟩ := q_42
    have n0 : I 186 0 = 32 := by omega
    have e0 : ∀ a j, (a < 175 ∨ 176 ≤ a ∧ a ≤ 202 ∨ 204 ≤ a) → u_42 a j = I a j := fun a j x => (d1 a j (by omega) (Or.inl (by omega)) (Or.inl (by omega)) (Or.inl (by omega)) (Or.inl (by omega)) (Or.inl (by omega)) (Or.inl (by omega)) (Or.inl (by omega)) (Or.inl (by omega)) (Or.inl (by omega))).trans (a_up_ne (Or.inl (by omega)))
    have R00 : fR0 qN I L u_42 L := ⟨fun a j x _ => e0 a j (by omega), (d1 175 3 (by decide) (Or.inr (by decide)) (Or.inr (by decide)) (Or.inr (by decide)) (Or.inr (by decide)) (Or.inr (by decide)) (Or.inr (by decide)) (Or.inr (by decide)) (Or.inr (by decide)) (Or.inr (by decide))).trans (a_up_ne (Or.inr (by decide))), fun _ _ _ => rfl⟩
    have D0 : RD u_42 L 1 := ⟨RS.of (fun j => e0 193 j (by omega)) (fun _ => rfl), d2, d3⟩
    have RS := D0.1
    have c40 : u_42 175 4 = 0 := (d1 175 4 (by decide) (Or.inr (by decide)) (Or.inr (by decide)) (Or.inr (by decide)) (Or.inr (by decide)) (Or.inr (by decide)) (Or.inr (by decide)) (Or.inr (by decide)) (Or.inr (by decide)) (Or.inr (by decide))).trans a_up_at
    show AW l G M_Mo_dsaKeys P 45 [(0, vr 175), (1, vi 1)] [] (sD h u_42 L)
    refine aw_aload_n d_Mo_dsaKeys_45 rfl rfl ?_
    refine aw_bipush d_Mo_dsaKeys_46 ⟨by decide, by decide⟩ (by decide) ?_
    refine ax_Vr (st := []) (as := [vi 12]) (b := 175) d_Mo_dsaKeys_48 cs_Mo_dsaKeys_48 (k_175 S) (c_Mo_begin12 S) rfl rfl rfl (fun u_48 q_48 => ?_)
    obtain ⟨I1, L1⟩ := u_48
    obtain ⟨F1, e1, k1⟩ := q_48
    dsimp only at F1 e1 k1
    show AW l G M_Mo_dsaKeys P 51 [(0, vr 175), (1, vi 1)] [] (sD h I1 L1)
    refine aw_aload_n d_Mo_dsaKeys_51 rfl rfl ?_
    refine aw_aload_n d_Mo_dsaKeys_52 rfl rfl ?_
    refine ax_getR (b := 177) d_Mo_dsaKeys_53 fd_Mo_15 (k_175 S) (r_175_1 S) ?_
    refine aw_iconst d_Mo_dsaKeys_56 ⟨by decide, by decide⟩ ?_
    refine ax_aald (b := 178) d_Mo_dsaKeys_57 ⟨by rw [(k_177 S)]; decide, by rw [(k_177 S)]; decide⟩ (by omega) (by rw [n_177 S]; omega) (g_177 S (j := 0) (by decide) (by decide)) ?_
    refine aw_iconst d_Mo_dsaKeys_58 ⟨by decide, by decide⟩ ?_
    refine aw_bipush d_Mo_dsaKeys_59 ⟨by decide, by decide⟩ (by decide) ?_
    refine ax_Vr (st := []) (as := [vr 178, vi 0, vi 32]) (b := 175) d_Mo_dsaKeys_61 cs_Mo_dsaKeys_61 (k_175 S) (c_Mo_put3 S (RS.rf F1) (by omega) (by rw [e1]; exact spStart_lt (by decide) (by decide)) ⟨k_178 S, by decide, by decide⟩ (by rw [n_178 S]; decide)) rfl rfl rfl (fun u_61 q_61 => ?_)
    obtain ⟨I2, L2⟩ := u_61
    obtain ⟨F2, e2, k2⟩ := q_61
    dsimp only at F2 e2 k2
    show AW l G M_Mo_dsaKeys P 64 [(0, vr 175), (1, vi 1)] [] (sD h I2 L2)
    refine aw_aload_n d_Mo_dsaKeys_64 rfl rfl ?_
    refine aw_aload_n d_Mo_dsaKeys_65 rfl rfl ?_
    refine ax_getIe (x := 6) d_Mo_dsaKeys_66 fd_Mo_223 (k_175 S) (Eq.trans ((F1.tr F2).1 175 26 (Or.inr (by decide))) (dr1_26 D0)) ?_
    refine ax_Vr (st := []) (as := [vi 6]) (b := 175) d_Mo_dsaKeys_69 cs_Mo_dsaKeys_69 (k_175 S) (c_Mo_put1 S ((RS.rf F1).rf F2) (by omega) (by rw [e2, e1]; exact spPart_lt (spStart_lt (by decide) (by decide)) _ _)) rfl rfl rfl (fun u_69 q_69 => ?_)
    obtain ⟨I3, L3⟩ := u_69
    obtain ⟨F3, e3, k3⟩ := q_69
    dsimp only at F3 e3 k3
    show AW l G M_Mo_dsaKeys P 72 [(0, vr 175), (1, vi 1)] [] (sD h I3 L3)
    refine aw_aload_n d_Mo_dsaKeys_72 rfl rfl ?_
    refine aw_aload_n d_Mo_dsaKeys_73 rfl rfl ?_
    refine ax_getIe (x := 5) d_Mo_dsaKeys_74 fd_Mo_226 (k_175 S) (Eq.trans (((F1.tr F2).tr F3).1 175 32 (Or.inr (by decide))) (dr1_32 D0)) ?_
    refine ax_Vr (st := []) (as := [vi 5]) (b := 175) d_Mo_dsaKeys_77 cs_Mo_dsaKeys_77 (k_175 S) (c_Mo_put1 S (((RS.rf F1).rf F2).rf F3) (by omega) (by rw [e3, e2, e1]; exact spTake_lt (spPart_lt (spStart_lt (by decide) (by decide)) _ _) _)) rfl rfl rfl (fun u_77 q_77 => ?_)
    obtain ⟨I4, L4⟩ := u_77
    obtain ⟨F4, e4, k4⟩ := q_77
    dsimp only at F4 e4 k4
    show AW l G M_Mo_dsaKeys P 80 [(0, vr 175), (1, vi 1)] [] (sD h I4 L4)
    have eS : spTurn (spR I4 L4) = ksS (fun k => I 178 (0 + k)) 6 5 := by rw [e4, e3, e2, e1, show (fun k => I1 178 (0 + k)) = (fun k => I 178 (0 + k)) from funext (fun z => (F1.1 178 _ (Or.inl (by decide))).trans (e0 178 _ (by omega)))]; rfl
    refine aw_aload_n d_Mo_dsaKeys_80 rfl rfl ?_
    refine aw_aload_n d_Mo_dsaKeys_81 rfl rfl ?_
    refine ax_getR (b := 202) d_Mo_dsaKeys_82 fd_Mo_68 (k_175 S) (r_175_25 S) ?_
    refine aw_iconst d_Mo_dsaKeys_85 ⟨by decide, by decide⟩ ?_
    refine aw_sipush d_Mo_dsaKeys_86 ⟨by decide, by decide⟩ (by decide) ?_
    refine ax_Vr (st := []) (as := [vr 202, vi 0, vi 128]) (b := 175) d_Mo_dsaKeys_89 cs_Mo_dsaKeys_89 (k_175 S) (c_Mo_give S ((((RS.rf F1).rf F2).rf F3).rf F4) (by omega) (by rw [e4, e3, e2, e1]; exact (spTake_lt (spTake_lt (spPart_lt (spStart_lt (by decide) (by decide)) _ _) _) _).1) ⟨k_202 S, by decide, by decide, by decide⟩ (by rw [n_202 S]; decide)) rfl rfl rfl (fun u_89 q_89 => ?_)
    obtain ⟨I5, L5⟩ := u_89
    obtain ⟨F5, f5, e5, k5⟩ := q_89
    dsimp only at F5 f5 e5 k5
    rw [eS] at F5
    have H5 : HR I5 202 0 128 (kgSd 1 (fun k => I 178 (0 + k))) := HR.give F5 (by decide)
    have G5 : FR (fun a => a = 202) u_42 L I5 L5 := ((((F1.tr F2).tr F3).tr F4).fr (p := fun a => a = 202)).tr (FR.give (p := fun a => a = 202) F5 f5 rfl) (fun a x => ⟨x, x⟩)
    have c45 : I5 175 4 = 0 := by rw [F5 175 4 (Or.inr (by decide)), putRow_ne (by decide), (((F1.tr F2).tr F3).tr F4).1 175 4 (Or.inr (by decide))]; exact c40
    show AW l G M_Mo_dsaKeys P 92 [(0, vr 175), (1, vi 1)] [] (sD h I5 L5)
    refine aw_iconst d_Mo_dsaKeys_92 ⟨by decide, by decide⟩ ?_
    refine aw_istore_n (lv' := [(2, vi 1), (0, vr 175), (1, vi 1)]) d_Mo_dsaKeys_93 rfl (by decide) rfl ?_
    refine aw_iconst d_Mo_dsaKeys_94 ⟨by decide, by decide⟩ ?_
    refine aw_istore_n (lv' := [(3, vi 0), (2, vi 1), (0, vr 175), (1, vi 1)]) d_Mo_dsaKeys_95 rfl (by decide) rfl ?_
    have lp_96 : ∀ (n_ : Nat) (i : Int) (fd : Int) (K : Nat → Int → Int) (M : Nat → Int → Int), (0 ≤ i ∧ i ≤ 11) → (FR (fun a => a = 202 ∨ 205 ≤ a ∧ a ≤ 252) u_42 L K M) → (HR K 202 0 128 (kgSd 1 (fun k => I 178 (0 + k)))) → ((fd = 0 ∨ fd = 1) ∧ (fd = 1 ↔ ∀ m, 0 ≤ m → m < i → (sml 4 (fun x => (kgSd 1 (fun k => I 178 (0 + k))) (32 + x)) m).2.1 = 256)) → (∀ m, 0 ≤ m → m < i → (sml 4 (fun x => (kgSd 1 (fun k => I 178 (0 + k))) (32 + x)) m).2.1 = 256 → eqQ (K (205 + m.toNat)) ((kgYs 1 (fun k => I 178 (0 + k))) m)) → (K 175 4 = 0) → ((11 - i).toNat) = n_ → AW l G M_Mo_dsaKeys P 96 [(3, vi i), (2, vi fd), (1, vi 1), (0, vr 175)] [] (sD h K M) := by
      intro n_
      induction n_ using Nat.strongRecOn with
      | _ n_ ih_96 =>
      intro i fd K M hi F hs hfd rw_ c4 hm_96
      refine aw_iload_n d_Mo_dsaKeys_96 rfl rfl ?_
      refine aw_aload_n d_Mo_dsaKeys_97 rfl rfl ?_
      refine ax_getIe (x := 5) d_Mo_dsaKeys_98 fd_Mo_226 (k_175 S) (Eq.trans (F.1 175 32 (by omega) (Or.inr (by decide))) (dr1_32 D0)) ?_
      refine aw_aload_n d_Mo_dsaKeys_101 rfl rfl ?_
      refine ax_getIe (x := 6) d_Mo_dsaKeys_102 fd_Mo_223 (k_175 S) (Eq.trans (F.1 175 26 (by omega) (Or.inr (by decide))) (dr1_26 D0)) ?_
      refine ax_iadd d_Mo_dsaKeys_105 ⟨(by omega), (by omega)⟩ ?_
      refine ax_ti (x := 11) (by decide) ?_
      refine aw_icmp_ge (tgt := 145) d_Mo_dsaKeys_106 (by decide) (fun c_106 => ?_) (fun c_106 => ?_)
      · skip
        rcases hfd.1 with fz | fz
        · subst fz
          refine aw_aload_n d_Mo_dsaKeys_145 rfl rfl ?_
          refine aw_iload_n d_Mo_dsaKeys_146 rfl rfl ?_
          refine aw_iconst d_Mo_dsaKeys_147 ⟨by decide, by decide⟩ ?_
          refine ax_V (st := []) (as := [vi 0, vi 3]) (b := 175) (v := some (vi 0)) (h' := sD h (a_up K 175 4 3) M) d_Mo_dsaKeys_148 cs_Mo_dsaKeys_148 (k_175 S) (c_good0 S rfl) rfl rfl rfl ?_
          show AW l G M_Mo_dsaKeys P 151 [(3, vi i), (2, vi 0), (1, vi 1), (0, vr 175)] [vi 0] (sD h (a_up K 175 4 3) M)
          refine aw_if_ne (tgt := 156) d_Mo_dsaKeys_151 (by decide) (fun c_151 => False.elim (by omega)) (fun c_151 => ?_)
          refine aw_iconst d_Mo_dsaKeys_154 ⟨by decide, by decide⟩ ?_
          exact aw_iret d_Mo_dsaKeys_155 rfl (hP _ _ (rsNo 0 3 (cKeys_3 (by decide) n0 (fun z => by have y := hfd.2.2 (fun m a b => z.2 m a (by show m < 11; omega)); exact absurd y (by decide))) (by decide) a_up_at (fR0.fr (fR0.fr R00 F (r := qN) (by intro a x y; exact ⟨fun z => z, by omega⟩) (by omega)) (FR.c0 (p := fun _ => False)) (by intro a x y; exact ⟨fun z => z, fun z => z⟩) (fun z => z))))
        · subst fz
          refine aw_aload_n d_Mo_dsaKeys_145 rfl rfl ?_
          refine aw_iload_n d_Mo_dsaKeys_146 rfl rfl ?_
          refine aw_iconst d_Mo_dsaKeys_147 ⟨by decide, by decide⟩ ?_
          refine ax_V (st := []) (as := [vi 1, vi 3]) (b := 175) (v := some (vi 1)) (h' := sD h (a_up K 175 4 0) M) d_Mo_dsaKeys_148 cs_Mo_dsaKeys_148 (k_175 S) (c_good1 S rfl) rfl rfl rfl ?_
          show AW l G M_Mo_dsaKeys P 151 [(3, vi i), (2, vi 1), (1, vi 1), (0, vr 175)] [vi 1] (sD h (a_up K 175 4 0) M)
          refine aw_if_ne (tgt := 156) d_Mo_dsaKeys_151 (by decide) (fun c_151 => ?_) (fun c_151 => False.elim (by omega))
          refine aw_sub (lv' := [(0, vr 175)]) (by simp) ?_
          have oks := hfd.2.1 rfl
          exact kB1 S n0 (fR0.fr (fR0.fr R00 F (r := qN) (by intro a x y; exact ⟨fun z => z, by omega⟩) (by omega)) (FR.c0 (p := fun _ => False)) (by intro a x y; exact ⟨fun z => z, fun z => z⟩) (fun z => z)) ((D0.fr F (by omega)).fr (FR.c0 (p := fun _ => False)) ⟨fun z => z, fun z => z, fun z => z⟩) (hs.fr (L := M) (L' := M) (FR.c0 (p := fun _ => False)) (fun z => z) (by decide)) (fun m a b x u v => by rw [a_up_ne (Or.inl (by omega))]; exact rw_ m a (by omega) (oks m a (by omega)) x u v) a_up_at (fun m a b => oks m a (by have b2 : m < 11 := b; omega)) hP
      · skip
        refine aw_aload_n d_Mo_dsaKeys_109 rfl rfl ?_
        refine aw_aload_n d_Mo_dsaKeys_110 rfl rfl ?_
        refine ax_getR (b := 204) d_Mo_dsaKeys_111 fd_Mo_76 (k_175 S) (r_175_28 S) ?_
        refine aw_iload_n d_Mo_dsaKeys_114 rfl rfl ?_
        refine ax_aald (b := 205 + i.toNat) d_Mo_dsaKeys_115 ⟨by rw [(k_204 S)]; decide, by rw [(k_204 S)]; decide⟩ (by omega) (by rw [n_204 S]; omega) (g_204 S (by omega) (by omega)) ?_
        refine aw_aload_n d_Mo_dsaKeys_116 rfl rfl ?_
        refine ax_getR (b := 202) d_Mo_dsaKeys_117 fd_Mo_68 (k_175 S) (r_175_25 S) ?_
        refine aw_bipush d_Mo_dsaKeys_120 ⟨by decide, by decide⟩ (by decide) ?_
        refine aw_iload_n d_Mo_dsaKeys_122 rfl rfl ?_
        refine ax_Vr (st := []) (as := [vr (205 + i.toNat), vr 202, vi 32, vi i]) (b := 175) d_Mo_dsaKeys_123 cs_Mo_dsaKeys_123 (k_175 S) (by have z := c_Mo_sampleSmall (l := l) (G := G) (I := K) (L := M) (f := 205 + i.toNat) (r := 202) (pa := 32) (x := i) (e := 4) S (D0.fr F (by omega)).1 ⟨kr_204 S (by omega), by omega, nr_204 S (by omega)⟩ (by omega) ⟨k_202 S, by decide, by decide⟩ (by rw [n_202 S]; decide) (by omega) (by rw [F.1 175 33 (by omega) (Or.inr (by decide))]; exact dr1_33 D0); rw [sml_HR hs (kgSd_m _ _)] at z; exact z) rfl rfl rfl (fun u_123 q_123 => ?_)
        obtain ⟨I6, L6⟩ := u_123
        obtain ⟨f6, r6⟩ := q_123
        dsimp only at f6 r6 ⊢
        by_cases ok_123 : (sml 4 (fun x => (kgSd 1 (fun k => I 178 (0 + k))) (32 + x)) i).2.1 = 256
        · skip
          rw [if_pos ok_123]
          show AW l G M_Mo_dsaKeys P 126 [(3, vi i), (2, vi fd), (1, vi 1), (0, vr 175)] [vi 1] (sD h I6 L6)
          refine aw_if_eq (tgt := 137) d_Mo_dsaKeys_126 (by decide) (fun c_126 => False.elim (by omega)) (fun c_126 => ?_)
          refine aw_iload_n d_Mo_dsaKeys_129 rfl rfl ?_
          refine aw_if_eq (tgt := 137) d_Mo_dsaKeys_130 (by decide) (fun c_130 => ?_) (fun c_130 => ?_)
          · skip
            refine aw_iconst d_Mo_dsaKeys_137 ⟨by decide, by decide⟩ ?_
            refine aw_istore_n (lv' := [(2, vi 0), (3, vi i), (1, vi 1), (0, vr 175)]) d_Mo_dsaKeys_138 rfl (by decide) rfl ?_
            refine ax_iinc (lv' := [(3, vi (i + 1)), (2, vi 0), (1, vi 1), (0, vr 175)]) d_Mo_dsaKeys_139 rfl (by decide) ⟨(by omega), (by omega)⟩ rfl ?_
            refine aw_goto (tgt := 96) d_Mo_dsaKeys_142 (by decide) ?_
            exact ih_96 _ (by omega) (i + 1) 0 I6 L6 (by omega) (F.tr (FR.smp (p := fun a => a = 202 ∨ 205 ≤ a ∧ a ≤ 252) f6 (by omega)) (fun a x => ⟨x, x⟩)) (hs.fr (FR.smp (p := fun a => a = 205 + i.toNat) f6 rfl) (by omega) (by decide)) (⟨Or.inl rfl, fun z => absurd z (by decide), fun z => by first | exact absurd (z i hi.1 (by omega)) ok_123 | (have := hfd.2.2 (fun m a b => z m a (by omega)); omega)⟩) (fun m a b y => by by_cases z : m = i; exact (by rw [z] at y ⊢; exact fun x u v => r6 x u (by rw [y]; exact v)); exact (fun x u v => by rw [f6.1 _ x (Or.inl (by omega)) (by omega)]; exact rw_ m a (by omega) y x u v)) (by rw [f6.1 175 4 (Or.inr (by decide)) (by omega)]; exact c4) rfl
          · skip
            refine aw_iconst d_Mo_dsaKeys_133 ⟨by decide, by decide⟩ ?_
            refine aw_goto (tgt := 138) d_Mo_dsaKeys_134 (by decide) ?_
            refine aw_istore_n (lv' := [(2, vi 1), (3, vi i), (1, vi 1), (0, vr 175)]) d_Mo_dsaKeys_138 rfl (by decide) rfl ?_
            refine ax_iinc (lv' := [(3, vi (i + 1)), (2, vi 1), (1, vi 1), (0, vr 175)]) d_Mo_dsaKeys_139 rfl (by decide) ⟨(by omega), (by omega)⟩ rfl ?_
            refine aw_goto (tgt := 96) d_Mo_dsaKeys_142 (by decide) ?_
            exact ih_96 _ (by omega) (i + 1) 1 I6 L6 (by omega) (F.tr (FR.smp (p := fun a => a = 202 ∨ 205 ≤ a ∧ a ≤ 252) f6 (by omega)) (fun a x => ⟨x, x⟩)) (hs.fr (FR.smp (p := fun a => a = 205 + i.toNat) f6 rfl) (by omega) (by decide)) (⟨Or.inr rfl, fun _ m a b => by by_cases z : m = i; exact (by rw [z]; exact ok_123); exact hfd.2.1 (by omega) m a (by omega), fun _ => rfl⟩) (fun m a b y => by by_cases z : m = i; exact (by rw [z] at y ⊢; exact fun x u v => r6 x u (by rw [y]; exact v)); exact (fun x u v => by rw [f6.1 _ x (Or.inl (by omega)) (by omega)]; exact rw_ m a (by omega) y x u v)) (by rw [f6.1 175 4 (Or.inr (by decide)) (by omega)]; exact c4) rfl
        · skip
          rw [if_neg ok_123]
          show AW l G M_Mo_dsaKeys P 126 [(3, vi i), (2, vi fd), (1, vi 1), (0, vr 175)] [vi 0] (sD h I6 L6)
          refine aw_if_eq (tgt := 137) d_Mo_dsaKeys_126 (by decide) (fun c_126 => ?_) (fun c_126 => False.elim (by omega))
          refine aw_iconst d_Mo_dsaKeys_137 ⟨by decide, by decide⟩ ?_
          refine aw_istore_n (lv' := [(2, vi 0), (3, vi i), (1, vi 1), (0, vr 175)]) d_Mo_dsaKeys_138 rfl (by decide) rfl ?_
          refine ax_iinc (lv' := [(3, vi (i + 1)), (2, vi 0), (1, vi 1), (0, vr 175)]) d_Mo_dsaKeys_139 rfl (by decide) ⟨(by omega), (by omega)⟩ rfl ?_
          refine aw_goto (tgt := 96) d_Mo_dsaKeys_142 (by decide) ?_
          exact ih_96 _ (by omega) (i + 1) 0 I6 L6 (by omega) (F.tr (FR.smp (p := fun a => a = 202 ∨ 205 ≤ a ∧ a ≤ 252) f6 (by omega)) (fun a x => ⟨x, x⟩)) (hs.fr (FR.smp (p := fun a => a = 205 + i.toNat) f6 rfl) (by omega) (by decide)) (⟨Or.inl rfl, fun z => absurd z (by decide), fun z => by first | exact absurd (z i hi.1 (by omega)) ok_123 | (have := hfd.2.2 (fun m a b => z m a (by omega)); omega)⟩) (fun m a b y => by by_cases z : m = i; exact (by rw [z] at y ⊢; exact fun x u v => r6 x u (by rw [y]; exact v)); exact (fun x u v => by rw [f6.1 _ x (Or.inl (by omega)) (by omega)]; exact rw_ m a (by omega) y x u v)) (by rw [f6.1 175 4 (Or.inr (by decide)) (by omega)]; exact c4) rfl
    skip
    refine aw_sub (lv' := [(3, vi 0), (2, vi 1), (1, vi 1), (0, vr 175)]) (by simp) ?_
    exact lp_96 _ 0 1 I5 L5 (by omega) (G5.mono (by intro a x; omega)) (H5) (⟨Or.inr rfl, fun _ m a b => by omega, fun _ => rfl⟩) (fun m a b => by omega) (c45) rfl
set_option maxHeartbeats 2000000 in
set_option maxRecDepth 100000 in
theorem kD2 {l : Launch} {G : a_G} {P : a_R → Hp → Prop} {h : Hp} {I L K M : Nat → Int → Int} (S : Shp h) (n0 : I 186 0 = 32) (R0 : fR0 qN I L K M) (D : RD K M 2) (hs : HR K 202 0 128 (kgSd 2 (fun k => I 178 (0 + k)))) (hb : HR K 262 0 1440 (fun x => gB (fun j => 2 - (kgYs 2 (fun k => I 178 (0 + k))) (x / 96) j) 3 (x % 96))) (ho : HR K 263 0 2560 (fun x => gB (fun j => ((kgT 2 (fun k => I 178 (0 + k))) (x / 320) j + 4096 - 1) / 8192) 10 (x % 320))) (hl : ∀ m, 0 ≤ m → m < 8 → eqQ (K (205 + (20 + m).toNat)) (fun j => (kgT 2 (fun k => I 178 (0 + k))) m j - ((kgT 2 (fun k => I 178 (0 + k))) m j + 4096 - 1) / 8192 * 8192)) (h4 : K 175 4 = 0) (okk : kgOk 2 (fun k => I 178 (0 + k))) (hP : ∀ r_ h2_, RsR h I L (cKeys 2 (I 186 0) (fun k => I 178 (0 + k))) (fun a => a = 179 ∨ a = 180 ∨ a = 186) (fun v I' _ => v = sSec 2 ∧ ((∀ j, j ≠ 1 → j ≠ 2 → I' 186 j = I 186 j) ∧ I' 186 1 = 32 + 320 * pK 2 ∧ I' 186 2 = sSec 2) ∧ (HR I' 179 0 (32 + 320 * pK 2) (kgPk 2 (fun k => I 178 (0 + k))) ∧ rng (I 179) (I' 179)) ∧ HR I' 180 0 (sSec 2) (kgSk 2 (fun k => I 178 (0 + k))) ∧ rng (I 180) (I' 180)) r_ h2_ → P r_ h2_) : AW l G M_Mo_dsaKeys P 490 [(4, vi 11520), (0, vr 175)] [] (sD h K M) := by
  refine aw_aload_n d_Mo_dsaKeys_490 rfl rfl ?_
  refine aw_iload d_Mo_dsaKeys_491 rfl ?_
  refine ax_putI d_Mo_dsaKeys_493 fd_Mo_216 (k_175 S) (by decide) rfl ?_
  refine aw_iconst d_Mo_dsaKeys_496 ⟨by decide, by decide⟩ ?_
  refine aw_istore (lv' := [(5, vi 0), (4, vi 11520), (0, vr 175)]) d_Mo_dsaKeys_497 (by decide) rfl ?_
  have lp_499 : ∀ (n_ : Nat) (i : Int) (K2 : Nat → Int → Int), (0 ≤ i ∧ i ≤ 8) → (FR (fun a => a = 262) K M K2 M) → (K2 175 23 = 8 * (1440 + 416 * i)) → (HR K2 262 0 1440 (fun x => gB (fun j => 2 - (kgYs 2 (fun k => I 178 (0 + k))) (x / 96) j) 3 (x % 96))) → (HR K2 262 1440 (416 * i) (fun x => gB (fun j => 4096 - ((kgT 2 (fun k => I 178 (0 + k))) (x / 416) j - ((kgT 2 (fun k => I 178 (0 + k))) (x / 416) j + 4096 - 1) / 8192 * 8192)) 13 (x % 416))) → (K2 175 4 = 0) → ((8 - i).toNat) = n_ → AW l G M_Mo_dsaKeys P 499 [(5, vi i), (0, vr 175)] [] (sD h K2 M) := by
    intro n_
    induction n_ using Nat.strongRecOn with
    | _ n_ ih_499 =>
    intro i K2 hi F b1 h1 h2 c4 hm_499
    refine aw_iload d_Mo_dsaKeys_499 rfl ?_
    refine aw_aload_n d_Mo_dsaKeys_501 rfl rfl ?_
    refine ax_getIe (x := 8) d_Mo_dsaKeys_502 fd_Mo_223 (k_175 S) (Eq.trans (F.1 175 26 (by omega) (Or.inr (by decide))) (dr2_26 D)) ?_
    refine aw_icmp_ge (tgt := 538) d_Mo_dsaKeys_505 (by decide) (fun c_505 => ?_) (fun c_505 => ?_)
    · skip
      refine aw_aload_n d_Mo_dsaKeys_538 rfl rfl ?_
      refine ax_getR (b := 202) d_Mo_dsaKeys_539 fd_Mo_68 (k_175 S) (r_175_25 S) ?_
      refine aw_iconst d_Mo_dsaKeys_542 ⟨by decide, by decide⟩ ?_
      refine aw_aload_n d_Mo_dsaKeys_543 rfl rfl ?_
      refine ax_getR (b := 177) d_Mo_dsaKeys_544 fd_Mo_15 (k_175 S) (r_175_1 S) ?_
      refine aw_iconst d_Mo_dsaKeys_547 ⟨by decide, by decide⟩ ?_
      refine ax_aald (b := 179) d_Mo_dsaKeys_548 ⟨by rw [(k_177 S)]; decide, by rw [(k_177 S)]; decide⟩ (by omega) (by rw [n_177 S]; omega) (g_177 S (j := 1) (by decide) (by decide)) ?_
      refine aw_iconst d_Mo_dsaKeys_549 ⟨by decide, by decide⟩ ?_
      refine aw_bipush d_Mo_dsaKeys_550 ⟨by decide, by decide⟩ (by decide) ?_
      refine ax_S (st := []) (as := [vr 202, vi 0, vr 179, vi 0, vi 32]) (v := none) (h' := sD h (putRow K2 179 0 32 (fun k => K2 202 (0 + k))) M) d_Mo_dsaKeys_552 cs_Mo_dsaKeys_552 (c_Mo_move ⟨k_202 S, by decide⟩ ⟨k_179 S, by decide, trivial⟩ (by decide) (by rw [n_202 S, n_179 S]; omega)) rfl rfl rfl ?_
      show AW l G M_Mo_dsaKeys P 555 [(5, vi i), (0, vr 175)] [] (sD h (putRow K2 179 0 32 (fun k => K2 202 (0 + k))) M)
      refine aw_aload_n d_Mo_dsaKeys_555 rfl rfl ?_
      refine ax_getR (b := 263) d_Mo_dsaKeys_556 fd_Mo_87 (k_175 S) (r_175_31 S) ?_
      refine aw_iconst d_Mo_dsaKeys_559 ⟨by decide, by decide⟩ ?_
      refine aw_aload_n d_Mo_dsaKeys_560 rfl rfl ?_
      refine ax_getR (b := 177) d_Mo_dsaKeys_561 fd_Mo_15 (k_175 S) (r_175_1 S) ?_
      refine aw_iconst d_Mo_dsaKeys_564 ⟨by decide, by decide⟩ ?_
      refine ax_aald (b := 179) d_Mo_dsaKeys_565 ⟨by rw [(k_177 S)]; decide, by rw [(k_177 S)]; decide⟩ (by omega) (by rw [n_177 S]; omega) (g_177 S (j := 1) (by decide) (by decide)) ?_
      refine aw_bipush d_Mo_dsaKeys_566 ⟨by decide, by decide⟩ (by decide) ?_
      refine aw_sipush d_Mo_dsaKeys_568 ⟨by decide, by decide⟩ (by decide) ?_
      refine aw_aload_n d_Mo_dsaKeys_571 rfl rfl ?_
      refine ax_getIe (x := 8) d_Mo_dsaKeys_572 fd_Mo_223 (k_175 S) (Eq.trans (putRow_ne (by decide)) (Eq.trans (F.1 175 26 (by omega) (Or.inr (by decide))) (dr2_26 D))) ?_
      refine ax_imul d_Mo_dsaKeys_575 ⟨(by omega), (by omega)⟩ ?_
      refine ax_ti (x := 2560) (by decide) ?_
      refine ax_S (st := []) (as := [vr 263, vi 0, vr 179, vi 32, vi 2560]) (v := none) (h' := sD h (putRow (putRow K2 179 0 32 (fun k => K2 202 (0 + k))) 179 32 2560 (fun k => (putRow K2 179 0 32 (fun k => K2 202 (0 + k))) 263 (0 + k))) M) d_Mo_dsaKeys_576 cs_Mo_dsaKeys_576 (c_Mo_move ⟨k_263 S, by decide⟩ ⟨k_179 S, by decide, trivial⟩ (by decide) (by rw [n_263 S, n_179 S]; omega)) rfl rfl rfl ?_
      show AW l G M_Mo_dsaKeys P 579 [(5, vi i), (0, vr 175)] [] (sD h (putRow (putRow K2 179 0 32 (fun k => K2 202 (0 + k))) 179 32 2560 (fun k => (putRow K2 179 0 32 (fun k => K2 202 (0 + k))) 263 (0 + k))) M)
      refine aw_aload_n d_Mo_dsaKeys_579 rfl rfl ?_
      refine ax_getR (b := 186) d_Mo_dsaKeys_580 fd_Mo_18 (k_175 S) (r_175_2 S) ?_
      refine aw_iconst d_Mo_dsaKeys_583 ⟨by decide, by decide⟩ ?_
      refine aw_bipush d_Mo_dsaKeys_584 ⟨by decide, by decide⟩ (by decide) ?_
      refine aw_sipush d_Mo_dsaKeys_586 ⟨by decide, by decide⟩ (by decide) ?_
      refine aw_aload_n d_Mo_dsaKeys_589 rfl rfl ?_
      refine ax_getIe (x := 8) d_Mo_dsaKeys_590 fd_Mo_223 (k_175 S) (Eq.trans (putRow_ne (by decide)) (Eq.trans (putRow_ne (by decide)) (Eq.trans (F.1 175 26 (by omega) (Or.inr (by decide))) (dr2_26 D)))) ?_
      refine ax_imul d_Mo_dsaKeys_593 ⟨(by omega), (by omega)⟩ ?_
      refine ax_ti (x := 2560) (by decide) ?_
      refine ax_iadd d_Mo_dsaKeys_594 ⟨(by omega), (by omega)⟩ ?_
      refine ax_ti (x := 2592) (by decide) ?_
      refine ax_iast d_Mo_dsaKeys_595 (k_186 S) (by decide) (by omega) (by rw [n_186 S]; omega) ?_
      refine aw_aload_n d_Mo_dsaKeys_596 rfl rfl ?_
      refine ax_getR (b := 202) d_Mo_dsaKeys_597 fd_Mo_68 (k_175 S) (r_175_25 S) ?_
      refine aw_iconst d_Mo_dsaKeys_600 ⟨by decide, by decide⟩ ?_
      refine aw_aload_n d_Mo_dsaKeys_601 rfl rfl ?_
      refine ax_getR (b := 177) d_Mo_dsaKeys_602 fd_Mo_15 (k_175 S) (r_175_1 S) ?_
      refine aw_iconst d_Mo_dsaKeys_605 ⟨by decide, by decide⟩ ?_
      refine ax_aald (b := 180) d_Mo_dsaKeys_606 ⟨by rw [(k_177 S)]; decide, by rw [(k_177 S)]; decide⟩ (by omega) (by rw [n_177 S]; omega) (g_177 S (j := 2) (by decide) (by decide)) ?_
      refine aw_iconst d_Mo_dsaKeys_607 ⟨by decide, by decide⟩ ?_
      refine aw_bipush d_Mo_dsaKeys_608 ⟨by decide, by decide⟩ (by decide) ?_
      refine ax_S (st := []) (as := [vr 202, vi 0, vr 180, vi 0, vi 32]) (v := none) (h' := sD h (putRow (a_up (putRow (putRow K2 179 0 32 (fun k => K2 202 (0 + k))) 179 32 2560 (fun k => (putRow K2 179 0 32 (fun k => K2 202 (0 + k))) 263 (0 + k))) 186 1 2592) 180 0 32 (fun k => (a_up (putRow (putRow K2 179 0 32 (fun k => K2 202 (0 + k))) 179 32 2560 (fun k => (putRow K2 179 0 32 (fun k => K2 202 (0 + k))) 263 (0 + k))) 186 1 2592) 202 (0 + k))) M) d_Mo_dsaKeys_610 cs_Mo_dsaKeys_610 (c_Mo_move ⟨k_202 S, by decide⟩ ⟨k_180 S, by decide, trivial⟩ (by decide) (by rw [n_202 S, n_180 S]; omega)) rfl rfl rfl ?_
      show AW l G M_Mo_dsaKeys P 613 [(5, vi i), (0, vr 175)] [] (sD h (putRow (a_up (putRow (putRow K2 179 0 32 (fun k => K2 202 (0 + k))) 179 32 2560 (fun k => (putRow K2 179 0 32 (fun k => K2 202 (0 + k))) 263 (0 + k))) 186 1 2592) 180 0 32 (fun k => (a_up (putRow (putRow K2 179 0 32 (fun k => K2 202 (0 + k))) 179 32 2560 (fun k => (putRow K2 179 0 32 (fun k => K2 202 (0 + k))) 263 (0 + k))) 186 1 2592) 202 (0 + k))) M)
      refine aw_aload_n d_Mo_dsaKeys_613 rfl rfl ?_
      refine ax_getR (b := 202) d_Mo_dsaKeys_614 fd_Mo_68 (k_175 S) (r_175_25 S) ?_
      refine aw_bipush d_Mo_dsaKeys_617 ⟨by decide, by decide⟩ (by decide) ?_
      refine aw_aload_n d_Mo_dsaKeys_619 rfl rfl ?_
      refine ax_getR (b := 177) d_Mo_dsaKeys_620 fd_Mo_15 (k_175 S) (r_175_1 S) ?_
      refine aw_iconst d_Mo_dsaKeys_623 ⟨by decide, by decide⟩ ?_
      refine ax_aald (b := 180) d_Mo_dsaKeys_624 ⟨by rw [(k_177 S)]; decide, by rw [(k_177 S)]; decide⟩ (by omega) (by rw [n_177 S]; omega) (g_177 S (j := 2) (by decide) (by decide)) ?_
      refine aw_bipush d_Mo_dsaKeys_625 ⟨by decide, by decide⟩ (by decide) ?_
      refine aw_bipush d_Mo_dsaKeys_627 ⟨by decide, by decide⟩ (by decide) ?_
      refine ax_S (st := []) (as := [vr 202, vi 96, vr 180, vi 32, vi 32]) (v := none) (h' := sD h (putRow (putRow (a_up (putRow (putRow K2 179 0 32 (fun k => K2 202 (0 + k))) 179 32 2560 (fun k => (putRow K2 179 0 32 (fun k => K2 202 (0 + k))) 263 (0 + k))) 186 1 2592) 180 0 32 (fun k => (a_up (putRow (putRow K2 179 0 32 (fun k => K2 202 (0 + k))) 179 32 2560 (fun k => (putRow K2 179 0 32 (fun k => K2 202 (0 + k))) 263 (0 + k))) 186 1 2592) 202 (0 + k))) 180 32 32 (fun k => (putRow (a_up (putRow (putRow K2 179 0 32 (fun k => K2 202 (0 + k))) 179 32 2560 (fun k => (putRow K2 179 0 32 (fun k => K2 202 (0 + k))) 263 (0 + k))) 186 1 2592) 180 0 32 (fun k => (a_up (putRow (putRow K2 179 0 32 (fun k => K2 202 (0 + k))) 179 32 2560 (fun k => (putRow K2 179 0 32 (fun k => K2 202 (0 + k))) 263 (0 + k))) 186 1 2592) 202 (0 + k))) 202 (96 + k))) M) d_Mo_dsaKeys_629 cs_Mo_dsaKeys_629 (c_Mo_move ⟨k_202 S, by decide⟩ ⟨k_180 S, by decide, trivial⟩ (by decide) (by rw [n_202 S, n_180 S]; omega)) rfl rfl rfl ?_
      show AW l G M_Mo_dsaKeys P 632 [(5, vi i), (0, vr 175)] [] (sD h (putRow (putRow (a_up (putRow (putRow K2 179 0 32 (fun k => K2 202 (0 + k))) 179 32 2560 (fun k => (putRow K2 179 0 32 (fun k => K2 202 (0 + k))) 263 (0 + k))) 186 1 2592) 180 0 32 (fun k => (a_up (putRow (putRow K2 179 0 32 (fun k => K2 202 (0 + k))) 179 32 2560 (fun k => (putRow K2 179 0 32 (fun k => K2 202 (0 + k))) 263 (0 + k))) 186 1 2592) 202 (0 + k))) 180 32 32 (fun k => (putRow (a_up (putRow (putRow K2 179 0 32 (fun k => K2 202 (0 + k))) 179 32 2560 (fun k => (putRow K2 179 0 32 (fun k => K2 202 (0 + k))) 263 (0 + k))) 186 1 2592) 180 0 32 (fun k => (a_up (putRow (putRow K2 179 0 32 (fun k => K2 202 (0 + k))) 179 32 2560 (fun k => (putRow K2 179 0 32 (fun k => K2 202 (0 + k))) 263 (0 + k))) 186 1 2592) 202 (0 + k))) 202 (96 + k))) M)
      have G1 : FR (fun a => a = 262 ∨ a = 179) K M (putRow (putRow K2 179 0 32 (fun k => K2 202 (0 + k))) 179 32 2560 (fun k => (putRow K2 179 0 32 (fun k => K2 202 (0 + k))) 263 (0 + k))) M := (F.tr (FR.put (p := fun a => a = 179) rfl) (r := fun a => a = 262 ∨ a = 179) (by intro a x; omega)).tr (FR.put (p := fun a => a = 179) rfl) (by intro a x; omega)
      have G2 : FR (fun a => a = 262 ∨ a = 179 ∨ a = 180 ∨ a = 186) K M (putRow (putRow (a_up (putRow (putRow K2 179 0 32 (fun k => K2 202 (0 + k))) 179 32 2560 (fun k => (putRow K2 179 0 32 (fun k => K2 202 (0 + k))) 263 (0 + k))) 186 1 2592) 180 0 32 (fun k => (a_up (putRow (putRow K2 179 0 32 (fun k => K2 202 (0 + k))) 179 32 2560 (fun k => (putRow K2 179 0 32 (fun k => K2 202 (0 + k))) 263 (0 + k))) 186 1 2592) 202 (0 + k))) 180 32 32 (fun k => (putRow (a_up (putRow (putRow K2 179 0 32 (fun k => K2 202 (0 + k))) 179 32 2560 (fun k => (putRow K2 179 0 32 (fun k => K2 202 (0 + k))) 263 (0 + k))) 186 1 2592) 180 0 32 (fun k => (a_up (putRow (putRow K2 179 0 32 (fun k => K2 202 (0 + k))) 179 32 2560 (fun k => (putRow K2 179 0 32 (fun k => K2 202 (0 + k))) 263 (0 + k))) 186 1 2592) 202 (0 + k))) 202 (96 + k))) M := ((G1.tr (FR.up (p := fun a => a = 186) rfl) (r := fun a => a = 262 ∨ a = 179 ∨ a = 180 ∨ a = 186) (by intro a x; omega)).tr (FR.put (p := fun a => a = 180) rfl) (r := fun a => a = 262 ∨ a = 179 ∨ a = 180 ∨ a = 186) (by intro a x; omega)).tr (FR.put (p := fun a => a = 180) rfl) (by intro a x; omega)
      have p1 : HR (putRow (putRow K2 179 0 32 (fun k => K2 202 (0 + k))) 179 32 2560 (fun k => (putRow K2 179 0 32 (fun k => K2 202 (0 + k))) 263 (0 + k))) 179 0 (32 + 2560) (kgPk 2 (fun k => I 178 (0 + k))) := by
        refine HR.join (n := 32) (m := 2560) (HR.pre (HR.put (fun z x y => ?_)) (by omega)) (HR.put (fun z x y => ?_))
        · rw [F.1 202 _ (by decide) (Or.inl (by decide)), hs z x (by omega), show kgPk 2 (fun k => I 178 (0 + k)) z = pkB (kgSd 2 (fun k => I 178 (0 + k))) (kgT 2 (fun k => I 178 (0 + k))) z from rfl]; unfold pkB; rw [if_pos y]
        · rw [putRow_ne (by decide), F.1 263 _ (by decide) (Or.inl (by decide)), ho z x (by omega), show kgPk 2 (fun k => I 178 (0 + k)) (32 + z) = pkB (kgSd 2 (fun k => I 178 (0 + k))) (kgT 2 (fun k => I 178 (0 + k))) (32 + z) from rfl]; unfold pkB; rw [if_neg (by omega), show 32 + z - 32 = z by omega]
      have p2 : HR (putRow (putRow (a_up (putRow (putRow K2 179 0 32 (fun k => K2 202 (0 + k))) 179 32 2560 (fun k => (putRow K2 179 0 32 (fun k => K2 202 (0 + k))) 263 (0 + k))) 186 1 2592) 180 0 32 (fun k => (a_up (putRow (putRow K2 179 0 32 (fun k => K2 202 (0 + k))) 179 32 2560 (fun k => (putRow K2 179 0 32 (fun k => K2 202 (0 + k))) 263 (0 + k))) 186 1 2592) 202 (0 + k))) 180 32 32 (fun k => (putRow (a_up (putRow (putRow K2 179 0 32 (fun k => K2 202 (0 + k))) 179 32 2560 (fun k => (putRow K2 179 0 32 (fun k => K2 202 (0 + k))) 263 (0 + k))) 186 1 2592) 180 0 32 (fun k => (a_up (putRow (putRow K2 179 0 32 (fun k => K2 202 (0 + k))) 179 32 2560 (fun k => (putRow K2 179 0 32 (fun k => K2 202 (0 + k))) 263 (0 + k))) 186 1 2592) 202 (0 + k))) 202 (96 + k))) 179 0 (32 + 2560) (kgPk 2 (fun k => I 178 (0 + k))) := fun z x y => by rw [putRow_ne (by decide), putRow_ne (by decide), a_up_ne (Or.inl (by decide))]; exact p1 z x y
      have t2 : ∀ z, 0 ≤ z → z < 128 → (a_up (putRow (putRow K2 179 0 32 (fun k => K2 202 (0 + k))) 179 32 2560 (fun k => (putRow K2 179 0 32 (fun k => K2 202 (0 + k))) 263 (0 + k))) 186 1 2592) 202 (0 + z) % 256 = (kgSd 2 (fun k => I 178 (0 + k))) z := fun z x y => by rw [a_up_ne (Or.inl (by decide)), putRow_ne (by decide), putRow_ne (by decide), F.1 202 _ (by decide) (Or.inl (by decide)), hs z x y]
      have RS := D.1.fr G2 (by decide)
      refine aw_aload_n d_Mo_dsaKeys_632 rfl rfl ?_
      refine aw_bipush d_Mo_dsaKeys_633 ⟨by decide, by decide⟩ (by decide) ?_
      refine ax_Vr (st := []) (as := [vi 12]) (b := 175) d_Mo_dsaKeys_635 cs_Mo_dsaKeys_635 (k_175 S) (c_Mo_begin12 S) rfl rfl rfl (fun u_635 q_635 => ?_)
      obtain ⟨I1, L1⟩ := u_635
      obtain ⟨F1, e1, k1⟩ := q_635
      dsimp only at F1 e1 k1
      show AW l G M_Mo_dsaKeys P 638 [(5, vi i), (0, vr 175)] [] (sD h I1 L1)
      refine aw_aload_n d_Mo_dsaKeys_638 rfl rfl ?_
      refine aw_aload_n d_Mo_dsaKeys_639 rfl rfl ?_
      refine ax_getR (b := 177) d_Mo_dsaKeys_640 fd_Mo_15 (k_175 S) (r_175_1 S) ?_
      refine aw_iconst d_Mo_dsaKeys_643 ⟨by decide, by decide⟩ ?_
      refine ax_aald (b := 179) d_Mo_dsaKeys_644 ⟨by rw [(k_177 S)]; decide, by rw [(k_177 S)]; decide⟩ (by omega) (by rw [n_177 S]; omega) (g_177 S (j := 1) (by decide) (by decide)) ?_
      refine aw_iconst d_Mo_dsaKeys_645 ⟨by decide, by decide⟩ ?_
      refine aw_aload_n d_Mo_dsaKeys_646 rfl rfl ?_
      refine ax_getR (b := 186) d_Mo_dsaKeys_647 fd_Mo_18 (k_175 S) (r_175_2 S) ?_
      refine aw_iconst d_Mo_dsaKeys_650 ⟨by decide, by decide⟩ ?_
      refine ax_ialde (x := 2592) d_Mo_dsaKeys_651 (k_186 S) (by omega) (by rw [n_186 S]; omega) (Eq.trans (F1.1 186 1 (Or.inl (by decide))) ((putRow_ne (by decide)).trans ((putRow_ne (by decide)).trans a_up_at))) ?_
      refine ax_Vr (st := []) (as := [vr 179, vi 0, vi 2592]) (b := 175) d_Mo_dsaKeys_652 cs_Mo_dsaKeys_652 (k_175 S) (c_Mo_put3 S (RS.rf F1) (by omega) (by rw [e1]; exact spStart_lt (by decide) (by decide)) ⟨k_179 S, by decide, by decide⟩ (by rw [n_179 S]; decide)) rfl rfl rfl (fun u_652 q_652 => ?_)
      obtain ⟨I2, L2⟩ := u_652
      obtain ⟨F2, e2, k2⟩ := q_652
      dsimp only at F2 e2 k2
      show AW l G M_Mo_dsaKeys P 655 [(5, vi i), (0, vr 175)] [] (sD h I2 L2)
      have eS : spTurn (spR I2 L2) = blS (kgPk 2 (fun k => I 178 (0 + k))) 2592 := by rw [e2, e1, show Int.toNat 2592 = 2592 from rfl, spPart_congr (f := fun k => I1 179 (0 + k)) (g := kgPk 2 (fun k => I 178 (0 + k))) (fun k hk => by rw [F1.1 179 _ (Or.inl (by decide)), p2 k (by omega) (by omega), kgPk_m])]; rfl
      refine aw_aload_n d_Mo_dsaKeys_655 rfl rfl ?_
      refine aw_aload_n d_Mo_dsaKeys_656 rfl rfl ?_
      refine ax_getR (b := 177) d_Mo_dsaKeys_657 fd_Mo_15 (k_175 S) (r_175_1 S) ?_
      refine aw_iconst d_Mo_dsaKeys_660 ⟨by decide, by decide⟩ ?_
      refine ax_aald (b := 180) d_Mo_dsaKeys_661 ⟨by rw [(k_177 S)]; decide, by rw [(k_177 S)]; decide⟩ (by omega) (by rw [n_177 S]; omega) (g_177 S (j := 2) (by decide) (by decide)) ?_
      refine aw_bipush d_Mo_dsaKeys_662 ⟨by decide, by decide⟩ (by decide) ?_
      refine aw_bipush d_Mo_dsaKeys_664 ⟨by decide, by decide⟩ (by decide) ?_
      refine ax_Vr (st := []) (as := [vr 180, vi 64, vi 64]) (b := 175) d_Mo_dsaKeys_666 cs_Mo_dsaKeys_666 (k_175 S) (c_Mo_give S ((RS.rf F1).rf F2) (by omega) (by rw [e2, e1]; exact (spPart_lt (spStart_lt (by decide) (by decide)) _ _).1) ⟨k_180 S, by decide, by decide, by decide⟩ (by rw [n_180 S]; decide)) rfl rfl rfl (fun u_666 q_666 => ?_)
      obtain ⟨I4, L4⟩ := u_666
      obtain ⟨F4, f4, e4, k4⟩ := q_666
      dsimp only at F4 f4 e4 k4
      rw [eS] at F4
      have G4 : FR (fun a => a = 180) (putRow (putRow (a_up (putRow (putRow K2 179 0 32 (fun k => K2 202 (0 + k))) 179 32 2560 (fun k => (putRow K2 179 0 32 (fun k => K2 202 (0 + k))) 263 (0 + k))) 186 1 2592) 180 0 32 (fun k => (a_up (putRow (putRow K2 179 0 32 (fun k => K2 202 (0 + k))) 179 32 2560 (fun k => (putRow K2 179 0 32 (fun k => K2 202 (0 + k))) 263 (0 + k))) 186 1 2592) 202 (0 + k))) 180 32 32 (fun k => (putRow (a_up (putRow (putRow K2 179 0 32 (fun k => K2 202 (0 + k))) 179 32 2560 (fun k => (putRow K2 179 0 32 (fun k => K2 202 (0 + k))) 263 (0 + k))) 186 1 2592) 180 0 32 (fun k => (a_up (putRow (putRow K2 179 0 32 (fun k => K2 202 (0 + k))) 179 32 2560 (fun k => (putRow K2 179 0 32 (fun k => K2 202 (0 + k))) 263 (0 + k))) 186 1 2592) 202 (0 + k))) 202 (96 + k))) M I4 L4 := ((F1.tr F2).fr (p := fun a => a = 180)).tr (FR.give (p := fun a => a = 180) F4 f4 rfl) (fun a x => ⟨x, x⟩)
      have G5 : FR (fun a => a = 262 ∨ a = 179 ∨ a = 180 ∨ a = 186) K M I4 L4 := G2.tr G4 (by intro a x; omega)
      have D4 := D.fr G5 (by decide)
      show AW l G M_Mo_dsaKeys P 669 [(5, vi i), (0, vr 175)] [] (sD h I4 L4)
      refine aw_aload_n d_Mo_dsaKeys_669 rfl rfl ?_
      refine ax_getR (b := 186) d_Mo_dsaKeys_670 fd_Mo_18 (k_175 S) (r_175_2 S) ?_
      refine aw_iconst d_Mo_dsaKeys_673 ⟨by decide, by decide⟩ ?_
      refine aw_aload_n d_Mo_dsaKeys_674 rfl rfl ?_
      refine ax_V (st := [vi 2, vr 186]) (as := []) (b := 175) (v := some (vi 4896)) (h' := sD h I4 L4) d_Mo_dsaKeys_675 cs_Mo_dsaKeys_675 (k_175 S) (c_Mo_secretLength (z := 4896) S (by rw [dr2_33 D4, dr2_32 D4, dr2_26 D4]; decide) (by rw [dr2_32 D4, dr2_26 D4]; decide)) rfl rfl rfl ?_
      show AW l G M_Mo_dsaKeys P 678 [(5, vi i), (0, vr 175)] [vi 4896, vi 2, vr 186] (sD h I4 L4)
      refine ax_iast d_Mo_dsaKeys_678 (k_186 S) (by decide) (by omega) (by rw [n_186 S]; omega) ?_
      refine aw_aload_n d_Mo_dsaKeys_679 rfl rfl ?_
      refine ax_getR (b := 262) d_Mo_dsaKeys_680 fd_Mo_84 (k_175 S) (r_175_30 S) ?_
      refine aw_iconst d_Mo_dsaKeys_683 ⟨by decide, by decide⟩ ?_
      refine aw_aload_n d_Mo_dsaKeys_684 rfl rfl ?_
      refine ax_getR (b := 177) d_Mo_dsaKeys_685 fd_Mo_15 (k_175 S) (r_175_1 S) ?_
      refine aw_iconst d_Mo_dsaKeys_688 ⟨by decide, by decide⟩ ?_
      refine ax_aald (b := 180) d_Mo_dsaKeys_689 ⟨by rw [(k_177 S)]; decide, by rw [(k_177 S)]; decide⟩ (by omega) (by rw [n_177 S]; omega) (g_177 S (j := 2) (by decide) (by decide)) ?_
      refine aw_sipush d_Mo_dsaKeys_690 ⟨by decide, by decide⟩ (by decide) ?_
      refine aw_aload_n d_Mo_dsaKeys_693 rfl rfl ?_
      refine ax_getR (b := 186) d_Mo_dsaKeys_694 fd_Mo_18 (k_175 S) (r_175_2 S) ?_
      refine aw_iconst d_Mo_dsaKeys_697 ⟨by decide, by decide⟩ ?_
      refine ax_ialde (x := 4896) d_Mo_dsaKeys_698 (k_186 S) (by omega) (by rw [n_186 S]; omega) (a_up_at) ?_
      refine aw_sipush d_Mo_dsaKeys_699 ⟨by decide, by decide⟩ (by decide) ?_
      refine ax_isub d_Mo_dsaKeys_702 ⟨(by omega), (by omega)⟩ ?_
      refine ax_ti (x := 4768) (by decide) ?_
      refine ax_S (st := []) (as := [vr 262, vi 0, vr 180, vi 128, vi 4768]) (v := none) (h' := sD h (putRow (a_up I4 186 2 4896) 180 128 (4768) (fun k => (a_up I4 186 2 4896) 262 (0 + k))) L4) d_Mo_dsaKeys_703 cs_Mo_dsaKeys_703 (c_Mo_move ⟨k_262 S, by decide⟩ ⟨k_180 S, by decide, trivial⟩ (by decide) (by rw [n_262 S, n_180 S]; omega)) rfl rfl rfl ?_
      show AW l G M_Mo_dsaKeys P 706 [(5, vi i), (0, vr 175)] [] (sD h (putRow (a_up I4 186 2 4896) 180 128 (4768) (fun k => (a_up I4 186 2 4896) 262 (0 + k))) L4)
      have r4 : HR I4 180 0 128 (kgSk 2 (fun k => I 178 (0 + k))) := by
        have x1 : HR (putRow (putRow (a_up (putRow (putRow K2 179 0 32 (fun k => K2 202 (0 + k))) 179 32 2560 (fun k => (putRow K2 179 0 32 (fun k => K2 202 (0 + k))) 263 (0 + k))) 186 1 2592) 180 0 32 (fun k => (a_up (putRow (putRow K2 179 0 32 (fun k => K2 202 (0 + k))) 179 32 2560 (fun k => (putRow K2 179 0 32 (fun k => K2 202 (0 + k))) 263 (0 + k))) 186 1 2592) 202 (0 + k))) 180 32 32 (fun k => (putRow (a_up (putRow (putRow K2 179 0 32 (fun k => K2 202 (0 + k))) 179 32 2560 (fun k => (putRow K2 179 0 32 (fun k => K2 202 (0 + k))) 263 (0 + k))) 186 1 2592) 180 0 32 (fun k => (a_up (putRow (putRow K2 179 0 32 (fun k => K2 202 (0 + k))) 179 32 2560 (fun k => (putRow K2 179 0 32 (fun k => K2 202 (0 + k))) 263 (0 + k))) 186 1 2592) 202 (0 + k))) 202 (96 + k))) 180 0 (32 + 32) (kgSk 2 (fun k => I 178 (0 + k))) := by
          refine HR.join (HR.pre (HR.put (fun z x y => ?_)) (by omega)) (HR.put (fun z x y => ?_))
          · rw [t2 z x (by omega), show kgSk 2 (fun k => I 178 (0 + k)) z = skB2 (kgSd 2 (fun k => I 178 (0 + k))) (spOut (blS (kgPk 2 (fun k => I 178 (0 + k))) 2592)) (kgY 2 (fun k => I 178 (0 + k))) (kgT 2 (fun k => I 178 (0 + k))) z from rfl]; unfold skB2; rw [if_pos y]
          · have w_ := t2 (96 + z) (by omega) (by omega)
            rw [Int.zero_add] at w_
            rw [putRow_ne (by decide), w_, show kgSk 2 (fun k => I 178 (0 + k)) (32 + z) = skB2 (kgSd 2 (fun k => I 178 (0 + k))) (spOut (blS (kgPk 2 (fun k => I 178 (0 + k))) 2592)) (kgY 2 (fun k => I 178 (0 + k))) (kgT 2 (fun k => I 178 (0 + k))) (32 + z) from rfl]; unfold skB2; rw [if_neg (by omega), if_pos (by omega), show 32 + z - 32 = z by omega]
        have x2 : ∀ z, 0 ≤ z → z < 64 → I4 180 (0 + z) % 256 = kgSk 2 (fun k => I 178 (0 + k)) z := fun z x y => by
          rw [F4 180 _ (Or.inl (by decide)), putRow_out (by omega), (F1.tr F2).1 180 _ (Or.inl (by decide))]
          exact x1 z x (by omega)
        have x3 := HR.give F4 (by decide)
        refine HR.join (n := 64) (m := 64) x2 (fun z x y => ?_)
        rw [show (0 + 64 + z : Int) = 64 + z by omega, x3 z x y]
        show _ = kgSk 2 (fun k => I 178 (0 + k)) (64 + z)
        rw [show kgSk 2 (fun k => I 178 (0 + k)) (64 + z) = skB2 (kgSd 2 (fun k => I 178 (0 + k))) (spOut (blS (kgPk 2 (fun k => I 178 (0 + k))) 2592)) (kgY 2 (fun k => I 178 (0 + k))) (kgT 2 (fun k => I 178 (0 + k))) (64 + z) from rfl]; unfold skB2; rw [if_neg (by omega), if_neg (by omega), if_pos (by omega), show 64 + z - 64 = z by omega]
      have bf : ∀ z, 0 ≤ z → z < 4768 → (a_up I4 186 2 4896) 262 (0 + z) % 256 = kgSk 2 (fun k => I 178 (0 + k)) (128 + z) := fun z x y => by
        rw [a_up_ne (Or.inl (by decide)), G4.1 262 _ (by decide) (Or.inl (by decide)), putRow_ne (by decide), putRow_ne (by decide), a_up_ne (Or.inl (by decide)), putRow_ne (by decide), putRow_ne (by decide)]
        by_cases v : z < 1440
        · rw [h1 z x v, show kgSk 2 (fun k => I 178 (0 + k)) (128 + z) = skB2 (kgSd 2 (fun k => I 178 (0 + k))) (spOut (blS (kgPk 2 (fun k => I 178 (0 + k))) 2592)) (kgY 2 (fun k => I 178 (0 + k))) (kgT 2 (fun k => I 178 (0 + k))) (128 + z) from rfl]; unfold skB2; rw [if_neg (by omega), if_neg (by omega), if_neg (by omega), if_pos (by omega), show 128 + z - 128 = z by omega]
          show gB _ 3 _ = gB _ 3 _
          exact congrFun (gB_congr (fun j u w_ => by have q_ := kgYs_b (s := 2) (g := (fun k => I 178 (0 + k))) (m := z / 96) (j := j); rw [show pE 2 = 2 from rfl] at q_; show 2 - (kgYs 2 (fun k => I 178 (0 + k))) (z / 96) j = (2 - (kgY 2 (fun k => I 178 (0 + k))) (z / 96) j) % 8380417; rw [kgY_Ys]; omega)) _
        · have y2 := h2 (z - 1440) (by omega) (by omega)
          rw [show (1440 + (z - 1440) : Int) = 0 + z by omega] at y2
          rw [y2, show kgSk 2 (fun k => I 178 (0 + k)) (128 + z) = skB2 (kgSd 2 (fun k => I 178 (0 + k))) (spOut (blS (kgPk 2 (fun k => I 178 (0 + k))) 2592)) (kgY 2 (fun k => I 178 (0 + k))) (kgT 2 (fun k => I 178 (0 + k))) (128 + z) from rfl]; unfold skB2; rw [if_neg (by omega), if_neg (by omega), if_neg (by omega), if_neg (by omega), show 128 + z - 1568 = z - 1440 by omega]
      have r5 : HR (putRow (a_up I4 186 2 4896) 180 128 (4768) (fun k => (a_up I4 186 2 4896) 262 (0 + k))) 180 0 4896 (kgSk 2 (fun k => I 178 (0 + k))) := HR.join (n := 128) (m := 4768) (HR.pre (fun z x y => by rw [a_up_ne (Or.inl (by decide))]; exact r4 z x y) (by omega)) (HR.put bf)
      have G6 : FR (fun a => a = 262 ∨ a = 179 ∨ a = 180 ∨ a = 186) K M (putRow (a_up I4 186 2 4896) 180 128 (4768) (fun k => (a_up I4 186 2 4896) 262 (0 + k))) L4 := (G5.tr (FR.up (p := fun a => a = 186) rfl) (r := fun a => a = 262 ∨ a = 179 ∨ a = 180 ∨ a = 186) (by intro a x; omega)).tr (FR.put (p := fun a => a = 180) rfl) (by intro a x; omega)
      refine aw_aload_n d_Mo_dsaKeys_706 rfl rfl ?_
      refine ax_getR (b := 186) d_Mo_dsaKeys_707 fd_Mo_18 (k_175 S) (r_175_2 S) ?_
      refine aw_iconst d_Mo_dsaKeys_710 ⟨by decide, by decide⟩ ?_
      refine ax_ialde (x := 4896) d_Mo_dsaKeys_711 (k_186 S) (by omega) (by rw [n_186 S]; omega) ((putRow_ne (by decide)).trans a_up_at) ?_
      exact aw_iret d_Mo_dsaKeys_712 rfl (hP _ _ ⟨_, _, _, rfl, rfl, by rw [putRow_ne (by decide), a_up_ne (Or.inl (by decide)), cKeys_0 (by decide) n0 okk]; (rw [F4 175 4 (Or.inr (by decide)), putRow_ne (by decide), (F1.tr F2).1 175 4 (Or.inr (by decide)), putRow_ne (by decide), putRow_ne (by decide), a_up_ne (Or.inl (by decide)), putRow_ne (by decide), putRow_ne (by decide)]; exact c4), Or.inl ⟨cKeys_0 (by decide) n0 okk, fR0.fr R0 G6 (by intro a x y; exact ⟨fun z => z, by omega⟩) (by decide), rfl, ⟨fun j x y => by rw [putRow_ne (by decide), a_up_ne (Or.inr y), G4.1 186 j (by decide) (Or.inl (by decide)), putRow_ne (by decide), putRow_ne (by decide), a_up_ne (Or.inr x), G1.1 186 j (by decide) (Or.inl (by decide))]; exact R0.1 186 j (by omega) (fun z => z), by rw [putRow_ne (by decide), a_up_ne (Or.inr (by decide)), G4.1 186 1 (by decide) (Or.inl (by decide)), putRow_ne (by decide), putRow_ne (by decide), a_up_at]; rfl, by rw [putRow_ne (by decide), a_up_at]; rfl⟩, ⟨fun z x y => by rw [putRow_ne (by decide), a_up_ne (Or.inl (by decide)), G4.1 179 _ (by decide) (Or.inl (by decide))]; exact p2 z x y, fun j => by rw [putRow_ne (by decide), a_up_ne (Or.inl (by decide)), G4.1 179 _ (by decide) (Or.inl (by decide)), putRow_ne (by decide), putRow_ne (by decide), a_up_ne (Or.inl (by decide))]; have z := (rng.p (I := K2) (f := 179) (o := 0) (n := 32) (g := fun k => K2 202 (0 + k))).t (rng.p (I := putRow K2 179 0 32 (fun k => K2 202 (0 + k))) (f := 179) (o := 32) (n := 2560) (g := fun k => (putRow K2 179 0 32 (fun k => K2 202 (0 + k))) 263 (0 + k))) j; rwa [F.1 179 j (by decide) (Or.inl (by decide)), R0.1 179 j (by omega) (fun z => z)] at z⟩, r5, fun j => by have z := ((rng.p (I := a_up (putRow (putRow K2 179 0 32 (fun k => K2 202 (0 + k))) 179 32 2560 (fun k => (putRow K2 179 0 32 (fun k => K2 202 (0 + k))) 263 (0 + k))) 186 1 2592) (f := 180) (o := 0) (n := 32) (g := fun k => (a_up (putRow (putRow K2 179 0 32 (fun k => K2 202 (0 + k))) 179 32 2560 (fun k => (putRow K2 179 0 32 (fun k => K2 202 (0 + k))) 263 (0 + k))) 186 1 2592) 202 (0 + k))).t (rng.p (I := putRow (a_up (putRow (putRow K2 179 0 32 (fun k => K2 202 (0 + k))) 179 32 2560 (fun k => (putRow K2 179 0 32 (fun k => K2 202 (0 + k))) 263 (0 + k))) 186 1 2592) 180 0 32 (fun k => (a_up (putRow (putRow K2 179 0 32 (fun k => K2 202 (0 + k))) 179 32 2560 (fun k => (putRow K2 179 0 32 (fun k => K2 202 (0 + k))) 263 (0 + k))) 186 1 2592) 202 (0 + k))) (f := 180) (o := 32) (n := 32) (g := fun k => (putRow (a_up (putRow (putRow K2 179 0 32 (fun k => K2 202 (0 + k))) 179 32 2560 (fun k => (putRow K2 179 0 32 (fun k => K2 202 (0 + k))) 263 (0 + k))) 186 1 2592) 180 0 32 (fun k => (a_up (putRow (putRow K2 179 0 32 (fun k => K2 202 (0 + k))) 179 32 2560 (fun k => (putRow K2 179 0 32 (fun k => K2 202 (0 + k))) 263 (0 + k))) 186 1 2592) 202 (0 + k))) 202 (96 + k)))).t (rng.t (Y := I2 180) (fun j => Or.inl ((F1.tr F2).1 180 j (Or.inl (by decide)))) ((rng.g F4 (by decide)).t (rng.t (Y := (a_up I4 186 2 4896) 180) (fun j => Or.inl (a_up_ne (Or.inl (by decide)))) (rng.p (o := 128) (n := 4768) (g := fun k => (a_up I4 186 2 4896) 262 (0 + k)))))) j; rw [show (a_up (putRow (putRow K2 179 0 32 (fun k => K2 202 (0 + k))) 179 32 2560 (fun k => (putRow K2 179 0 32 (fun k => K2 202 (0 + k))) 263 (0 + k))) 186 1 2592) 180 j = I 180 j from by rw [a_up_ne (Or.inl (by decide)), putRow_ne (by decide), putRow_ne (by decide), F.1 180 j (by decide) (Or.inl (by decide)), R0.1 180 j (by omega) (fun z => z)]] at z; exact z⟩⟩)
    · skip
      refine aw_aload_n d_Mo_dsaKeys_508 rfl rfl ?_
      refine aw_aload_n d_Mo_dsaKeys_509 rfl rfl ?_
      refine ax_getR (b := 262) d_Mo_dsaKeys_510 fd_Mo_84 (k_175 S) (r_175_30 S) ?_
      refine aw_iconst d_Mo_dsaKeys_513 ⟨by decide, by decide⟩ ?_
      refine aw_aload_n d_Mo_dsaKeys_514 rfl rfl ?_
      refine ax_getR (b := 204) d_Mo_dsaKeys_515 fd_Mo_76 (k_175 S) (r_175_28 S) ?_
      refine aw_bipush d_Mo_dsaKeys_518 ⟨by decide, by decide⟩ (by decide) ?_
      refine aw_iload d_Mo_dsaKeys_520 rfl ?_
      refine ax_iadd d_Mo_dsaKeys_522 ⟨(by omega), (by omega)⟩ ?_
      refine ax_aald (b := 205 + (20 + i).toNat) d_Mo_dsaKeys_523 ⟨by rw [(k_204 S)]; decide, by rw [(k_204 S)]; decide⟩ (by omega) (by rw [n_204 S]; omega) (g_204 S (by omega) (by omega)) ?_
      refine aw_sipush d_Mo_dsaKeys_524 ⟨by decide, by decide⟩ (by decide) ?_
      refine aw_bipush d_Mo_dsaKeys_527 ⟨by decide, by decide⟩ (by decide) ?_
      refine ax_Vr (st := []) (as := [vr 262, vi 0, vr (205 + (20 + i).toNat), vi 4096, vi 13]) (b := 175) d_Mo_dsaKeys_529 cs_Mo_dsaKeys_529 (k_175 S) (c_Mo_pack (c := 1440 + 416 * i) (d := 13) S ⟨k_262 S, by decide, by decide⟩ ⟨kr_204 S (by omega), by omega, nr_204 S (by omega)⟩ (by omega) (by decide) (by omega) (fun j x y => by rw [F.1 _ _ (by omega) (Or.inl (by omega)), hl i hi.1 (by omega) j x y]; have := kgT_in (s := 2) (g := (fun k => I 178 (0 + k))) (m := i) j x y; show 0 ≤ 4096 - ((kgT 2 (fun k => I 178 (0 + k))) i j - ((kgT 2 (fun k => I 178 (0 + k))) i j + 4096 - 1) / 8192 * 8192) ∧ 4096 - ((kgT 2 (fun k => I 178 (0 + k))) i j - ((kgT 2 (fun k => I 178 (0 + k))) i j + 4096 - 1) / 8192 * 8192) < 2 ^ 13; rw [show (2 ^ 13 : Int) = 8192 by decide]; omega) (by decide) (by rw [n_262 S]; omega)) rfl rfl rfl (fun u_529 q_529 => ?_)
      obtain ⟨q1, q2, q3⟩ := q_529
      show AW l G M_Mo_dsaKeys P 532 [(5, vi i), (0, vr 175)] [] (sD h u_529 M)
      refine ax_iinc (lv' := [(5, vi (i + 1)), (0, vr 175)]) d_Mo_dsaKeys_532 rfl (by decide) ⟨(by omega), (by omega)⟩ rfl ?_
      refine aw_goto (tgt := 499) d_Mo_dsaKeys_535 (by decide) ?_
      exact ih_499 _ (by omega) (i + 1) u_529 (by omega) (F.tr (FR.bits (p := fun a => a = 262) q1 rfl) (fun a x => ⟨x, x⟩)) (by omega) (fun z x y => by rw [q1 262 _ (Or.inr (by omega)) (Or.inl (by decide))]; exact h1 z x y) (fun z x y => by by_cases v : z < 416 * i; exact (by rw [q1 262 _ (Or.inr (by omega)) (Or.inl (by decide))]; exact h2 z x v); exact (by have y2 := q3 (z - 416 * i) (by omega) (by omega); rw [show (0 + (1440 + 416 * i) + (z - 416 * i) : Int) = 1440 + z by omega] at y2; rw [y2]; show _ = gB (fun j => 4096 - ((kgT 2 (fun k => I 178 (0 + k))) (z / 416) j - ((kgT 2 (fun k => I 178 (0 + k))) (z / 416) j + 4096 - 1) / 8192 * 8192)) 13 (z % 416); rw [show z / 416 = i by omega, show z % 416 = z - 416 * i by omega]; exact congrFun (gB_congr (fun j u v => by rw [F.1 _ _ (by omega) (Or.inl (by omega)), hl i hi.1 (by omega) j u v])) _)) ((q1 175 4 (Or.inl (by decide)) (Or.inr (by decide))).trans c4) rfl
  skip
  refine aw_sub (lv' := [(5, vi 0), (0, vr 175)]) (by simp) ?_
  exact lp_499 _ 0 (a_up K 175 23 11520) (by omega) (FR.b0) (by rw [a_up_at]; rfl) (hb.fr (L := M) (L' := M) (FR.b0 (p := fun _ => False)) (fun z => z) (by decide)) (fun z x y => by omega) (by rw [a_up_ne (Or.inr (by decide))]; exact h4) rfl
set_option maxHeartbeats 2000000 in
set_option maxRecDepth 100000 in
theorem kC2 {l : Launch} {G : a_G} {P : a_R → Hp → Prop} {h : Hp} {I L K M : Nat → Int → Int} (S : Shp h) (n0 : I 186 0 = 32) (R : fR0 qN I L K M) (D : RD K M 2) (hs : HR K 202 0 128 (kgSd 2 (fun k => I 178 (0 + k)))) (hb : HR K 262 0 1440 (fun x => gB (fun j => 2 - (kgYs 2 (fun k => I 178 (0 + k))) (x / 96) j) 3 (x % 96))) (hV : ∀ m, 0 ≤ m → m < 7 → eqQ (K (205 + m.toNat)) (fwd rt ((kgY 2 (fun k => I 178 (0 + k))) m))) (hE : ∀ m, 0 ≤ m → m < 8 → eqQ (K (205 + (7 + m).toNat)) ((kgYs 2 (fun k => I 178 (0 + k))) (7 + m))) (h4 : K 175 4 = 0) (b1 : K 175 23 = 8 * (320 * 0)) (okS : ∀ m, 0 ≤ m → m < pK 2 + pL 2 → (sml (pE 2) (fun x => (kgSd 2 (fun k => I 178 (0 + k))) (32 + x)) m).2.1 = 256) (hP : ∀ r_ h2_, RsR h I L (cKeys 2 (I 186 0) (fun k => I 178 (0 + k))) (fun a => a = 179 ∨ a = 180 ∨ a = 186) (fun v I' _ => v = sSec 2 ∧ ((∀ j, j ≠ 1 → j ≠ 2 → I' 186 j = I 186 j) ∧ I' 186 1 = 32 + 320 * pK 2 ∧ I' 186 2 = sSec 2) ∧ (HR I' 179 0 (32 + 320 * pK 2) (kgPk 2 (fun k => I 178 (0 + k))) ∧ rng (I 179) (I' 179)) ∧ HR I' 180 0 (sSec 2) (kgSk 2 (fun k => I 178 (0 + k))) ∧ rng (I 180) (I' 180)) r_ h2_ → P r_ h2_) : AW l G M_Mo_dsaKeys P 272 [(5, vi 0), (4, vi 11520), (0, vr 175)] [] (sD h K M) := by
  have lp_272 : ∀ (n_ : Nat) (i : Int) (K : Nat → Int → Int) (M : Nat → Int → Int), (0 ≤ i ∧ i ≤ 8) → (fR0 qN I L K M) → (RD K M 2) → (HR K 202 0 128 (kgSd 2 (fun k => I 178 (0 + k)))) → (HR K 262 0 1440 (fun x => gB (fun j => 2 - (kgYs 2 (fun k => I 178 (0 + k))) (x / 96) j) 3 (x % 96))) → (∀ m, 0 ≤ m → m < 7 → eqQ (K (205 + m.toNat)) (fwd rt ((kgY 2 (fun k => I 178 (0 + k))) m))) → (∀ m, 0 ≤ m → m < 8 → eqQ (K (205 + (7 + m).toNat)) ((kgYs 2 (fun k => I 178 (0 + k))) (7 + m))) → (K 175 23 = 8 * (320 * i)) → (HR K 263 0 (320 * i) (fun x => gB (fun j => ((kgT 2 (fun k => I 178 (0 + k))) (x / 320) j + 4096 - 1) / 8192) 10 (x % 320))) → (∀ m, 0 ≤ m → m < i → eqQ (K (205 + (20 + m).toNat)) (fun j => (kgT 2 (fun k => I 178 (0 + k))) m j - ((kgT 2 (fun k => I 178 (0 + k))) m j + 4096 - 1) / 8192 * 8192)) → (K 175 4 = 0) → (∀ m, 0 ≤ m → m < 7 * i → (wide (kgSd 2 (fun k => I 178 (0 + k))) (m % 7) (m / 7)).2.1 = 256) → ((8 - i).toNat) = n_ → AW l G M_Mo_dsaKeys P 272 [(5, vi i), (4, vi 11520), (0, vr 175)] [] (sD h K M) := by
    intro n_
    induction n_ using Nat.strongRecOn with
    | _ n_ ih_272 =>
    intro i K M hi R D hs hb hV hE b1 ho hl h4 okA hm_272
    refine aw_iload d_Mo_dsaKeys_272 rfl ?_
    refine aw_aload_n d_Mo_dsaKeys_274 rfl rfl ?_
    refine ax_getIe (x := 8) d_Mo_dsaKeys_275 fd_Mo_223 (k_175 S) (dr2_26 D) ?_
    refine aw_icmp_ge (tgt := 490) d_Mo_dsaKeys_278 (by decide) (fun c_278 => ?_) (fun c_278 => ?_)
    · skip
      refine aw_sub (lv' := [(4, vi 11520), (0, vr 175)]) (by simp) ?_
      exact kD2 S n0 R D hs hb (by rw [show (2560 : Int) = 320 * i by omega]; exact ho) (fun m a b => hl m a (by omega)) h4 ⟨fun m a b => okA m a (by have b2 : m < 56 := b; omega), okS⟩ hP
    · skip
      refine aw_aload_n d_Mo_dsaKeys_281 rfl rfl ?_
      refine ax_getR (b := 204) d_Mo_dsaKeys_282 fd_Mo_76 (k_175 S) (r_175_28 S) ?_
      refine aw_bipush d_Mo_dsaKeys_285 ⟨by decide, by decide⟩ (by decide) ?_
      refine ax_aald (b := 245) d_Mo_dsaKeys_287 ⟨by rw [(k_204 S)]; decide, by rw [(k_204 S)]; decide⟩ (by omega) (by rw [n_204 S]; omega) (g_204 S (j := 40) (by decide) (by decide)) ?_
      refine ax_S (st := []) (as := [vr 245]) (v := none) (h' := sD h (rowTo K 245 256 (fun _ => 0)) M) d_Mo_dsaKeys_288 cs_Mo_dsaKeys_288 (c_Mo_clear ⟨k_245 S, by decide, n_245 S⟩) rfl rfl rfl ?_
      show AW l G M_Mo_dsaKeys P 291 [(5, vi i), (4, vi 11520), (0, vr 175)] [] (sD h (rowTo K 245 256 (fun _ => 0)) M)
      refine aw_iconst d_Mo_dsaKeys_291 ⟨by decide, by decide⟩ ?_
      refine aw_istore (lv' := [(6, vi 0), (5, vi i), (4, vi 11520), (0, vr 175)]) d_Mo_dsaKeys_292 (by decide) rfl ?_
      have lp_294 : ∀ (n_ : Nat) (j : Int) (K2 : Nat → Int → Int) (M2 : Nat → Int → Int), (0 ≤ j ∧ j ≤ 7) → (FR (fun a => a = 245 ∨ a = 246) K M K2 M2) → (eqQ (K2 245) (fun c => pS (kgA 2 (fun k => I 178 (0 + k))) (fun j => fwd rt ((kgY 2 (fun k => I 178 (0 + k))) j)) (i * 7) c j.toNat % 8380417)) → (∀ m, 0 ≤ m → m < j → (wide (kgSd 2 (fun k => I 178 (0 + k))) m i).2.1 = 256) → (K2 175 4 = 0) → (K2 175 23 = 8 * (320 * i)) → ((7 - j).toNat) = n_ → AW l G M_Mo_dsaKeys P 294 [(6, vi j), (5, vi i), (4, vi 11520), (0, vr 175)] [] (sD h K2 M2) := by
        intro n_
        induction n_ using Nat.strongRecOn with
        | _ n_ ih_294 =>
        intro j K2 M2 hj F r2 okJ c4 b3 hm_294
        have hs2 := hs.fr F (by decide) (by decide)
        have D2 := D.fr F (by decide)
        refine aw_iload d_Mo_dsaKeys_294 rfl ?_
        refine aw_aload_n d_Mo_dsaKeys_296 rfl rfl ?_
        refine ax_getIe (x := 7) d_Mo_dsaKeys_297 fd_Mo_226 (k_175 S) (Eq.trans (F.1 175 32 (by omega) (Or.inr (by decide))) (dr2_32 D)) ?_
        refine aw_icmp_ge (tgt := 363) d_Mo_dsaKeys_300 (by decide) (fun c_300 => ?_) (fun c_300 => ?_)
        · skip
          refine aw_aload_n d_Mo_dsaKeys_363 rfl rfl ?_
          refine aw_aload_n d_Mo_dsaKeys_364 rfl rfl ?_
          refine ax_getR (b := 204) d_Mo_dsaKeys_365 fd_Mo_76 (k_175 S) (r_175_28 S) ?_
          refine aw_bipush d_Mo_dsaKeys_368 ⟨by decide, by decide⟩ (by decide) ?_
          refine ax_aald (b := 245) d_Mo_dsaKeys_370 ⟨by rw [(k_204 S)]; decide, by rw [(k_204 S)]; decide⟩ (by omega) (by rw [n_204 S]; omega) (g_204 S (j := 40) (by decide) (by decide)) ?_
          refine ax_Vr (st := []) (as := [vr 245]) (b := 175) d_Mo_dsaKeys_371 cs_Mo_dsaKeys_371 (k_175 S) (c_Mo_interpolate S ⟨k_245 S, by decide, n_245 S⟩ (by decide) (fun x a b => by rw [r2 x a b]; show 0 ≤ _ % 8380417 ∧ _ % 8380417 < 8380417; exact ⟨Int.emod_nonneg _ (by decide), Int.emod_lt_of_pos _ (by decide)⟩) D2.2.2) rfl rfl rfl (fun u_371 q_371 => ?_)
          have hl5 := q_371
          have r4 : eqQ ((rowTo K2 245 256 (itp (K2 245))) 245) (bck rt (fun c => pS (kgA 2 (fun k => I 178 (0 + k))) (fun j => fwd rt ((kgY 2 (fun k => I 178 (0 + k))) j)) (i * 7) c 7 % 8380417)) := fun x a b => by rw [rowTo_in a b, bck_itp a b]; exact itp_cq (fun k hk => cq.e (by rw [r2 k (by omega) (by omega), show j.toNat = 7 by omega]))
          show AW l G M_Mo_dsaKeys P 374 [(6, vi j), (5, vi i), (4, vi 11520), (0, vr 175)] [] (sD h (rowTo K2 245 256 (itp (K2 245))) u_371)
          refine aw_iconst d_Mo_dsaKeys_374 ⟨by decide, by decide⟩ ?_
          refine aw_istore (lv' := [(6, vi 0), (5, vi i), (4, vi 11520), (0, vr 175)]) d_Mo_dsaKeys_375 (by decide) rfl ?_
          have lp_377 : ∀ (n_ : Nat) (c : Int) (K4 : Nat → Int → Int), (0 ≤ c ∧ c ≤ 256) → (FR (fun a => a = 263 ∨ a = 205 + (20 + i).toNat) (rowTo K2 245 256 (itp (K2 245))) u_371 K4 u_371) → (∀ a j, (a ≠ 263 ∨ j < 0 + 320 * i) → (a ≠ 175 ∨ j ≠ 23) → a ≠ 205 + (20 + i).toNat → K4 a j = (rowTo K2 245 256 (itp (K2 245))) a j) → (K4 175 23 = 8 * (320 * i) + 10 * c) → (bIn (K4 263) (0 + 320 * i) (bV (fun j => ((kgT 2 (fun k => I 178 (0 + k))) i j + 4096 - 1) / 8192) 10 c.toNat) (10 * c.toNat)) → (∀ j, 0 ≤ j → j < c → K4 (205 + (20 + i).toNat) j = (fun j => (kgT 2 (fun k => I 178 (0 + k))) i j - ((kgT 2 (fun k => I 178 (0 + k))) i j + 4096 - 1) / 8192 * 8192) j) → ((256 - c).toNat) = n_ → AW l G M_Mo_dsaKeys P 377 [(6, vi c), (5, vi i), (4, vi 11520), (0, vr 175)] [] (sD h K4 u_371) := by
            intro n_
            induction n_ using Nat.strongRecOn with
            | _ n_ ih_377 =>
            intro c K4 hc Fc f1 b2 g1 lw hm_377
            have r5 : c < 256 → K4 245 c = bck rt (fun c => pS (kgA 2 (fun k => I 178 (0 + k))) (fun j => fwd rt ((kgY 2 (fun k => I 178 (0 + k))) j)) (i * 7) c 7 % 8380417) c := fun v => by rw [f1 245 c (Or.inl (by decide)) (Or.inl (by decide)) (by omega)]; exact r4 c hc.1 v
            have r6 : c < 256 → K4 (205 + (7 + i).toNat) c = (kgYs 2 (fun k => I 178 (0 + k))) (7 + i) c := fun v => by rw [f1 _ c (Or.inl (by omega)) (Or.inl (by omega)) (by omega), rowTo_ne (by omega), F.1 _ c (by omega) (Or.inl (by omega))]; exact hE i hi.1 (by omega) c hc.1 v
            refine aw_iload d_Mo_dsaKeys_377 rfl ?_
            refine aw_sipush d_Mo_dsaKeys_379 ⟨by decide, by decide⟩ (by decide) ?_
            refine aw_icmp_ge (tgt := 484) d_Mo_dsaKeys_382 (by decide) (fun c_382 => ?_) (fun c_382 => ?_)
            · skip
              refine ax_iinc (lv' := [(5, vi (i + 1)), (6, vi c), (4, vi 11520), (0, vr 175)]) d_Mo_dsaKeys_484 rfl (by decide) ⟨(by omega), (by omega)⟩ rfl ?_
              refine aw_goto (tgt := 272) d_Mo_dsaKeys_487 (by decide) ?_
              refine aw_sub (lv' := [(5, vi (i + 1)), (4, vi 11520), (0, vr 175)]) (by simp) ?_
              exact ih_272 _ (by omega) (i + 1) K4 u_371 (by omega) (fR0.fr (fR0.fr (fR0.fr R F (r := qN) (by intro a x y; exact ⟨fun z => z, by omega⟩) (by decide)) (FR.row (p := fun a => a = 245) rfl hl5) (r := qN) (by intro a x y; exact ⟨fun z => z, by omega⟩) (by decide)) (Fc : FR (fun a => a = 263 ∨ a = 205 + (20 + i).toNat) _ _ _ _) (by intro a x y; exact ⟨fun z => z, by omega⟩) (by omega)) (((D.fr F (by decide)).fr (FR.row (p := fun a => a = 245) rfl hl5) (by decide)).fr Fc (by omega)) (((hs.fr F (by decide) (by decide)).fr (FR.row (p := fun a => a = 245) rfl hl5) (by decide) (by decide)).fr Fc (by omega) (by decide)) (((hb.fr F (by decide) (by decide)).fr (FR.row (p := fun a => a = 245) rfl hl5) (by decide) (by decide)).fr Fc (by omega) (by decide)) (fun m a b j x y => by rw [Fc.1 _ _ (by omega) (Or.inl (by omega)), rowTo_ne (by omega), F.1 _ _ (by omega) (Or.inl (by omega))]; exact hV m a b j x y) (fun m a b j x y => by rw [Fc.1 _ _ (by omega) (Or.inl (by omega)), rowTo_ne (by omega), F.1 _ _ (by omega) (Or.inl (by omega))]; exact hE m a b j x y) (by omega) (fun z x y => by by_cases v : z < 320 * i; exact (by rw [f1 263 _ (Or.inr (by omega)) (Or.inl (by decide)) (by omega), rowTo_ne (by decide), F.1 _ _ (by decide) (Or.inl (by decide))]; exact ho z x v); exact (by have y2 := gB_of (by have w_ := g1; rw [show c.toNat = 256 by omega] at w_; exact w_) (z - 320 * i) (by omega) (by omega); rw [show (0 + 320 * i + (z - 320 * i) : Int) = 0 + z by omega] at y2; rw [y2]; show _ = gB (fun j => ((kgT 2 (fun k => I 178 (0 + k))) (z / 320) j + 4096 - 1) / 8192) 10 (z % 320); rw [show z / 320 = i by omega, show z % 320 = z - 320 * i by omega])) (fun m a b j x y => by by_cases v : m = i; exact (by rw [v]; exact lw j x (by omega)); exact (by rw [Fc.1 _ _ (by omega) (Or.inl (by omega)), rowTo_ne (by omega), F.1 _ _ (by omega) (Or.inl (by omega))]; exact hl m a (by omega) j x y)) (by rw [f1 175 4 (Or.inl (by decide)) (Or.inr (by decide)) (by omega), rowTo_ne (by decide)]; exact c4) (fun m a b => by by_cases v : m < 7 * i; exact okA m a v; exact (by have w_ := okJ (m - 7 * i) (by omega) (by omega); rw [show m % 7 = m - 7 * i by omega, show m / 7 = i by omega]; exact w_)) rfl
            · skip
              have q5 := bck_in (R := rt) (F := (fun c => pS (kgA 2 (fun k => I 178 (0 + k))) (fun j => fwd rt ((kgY 2 (fun k => I 178 (0 + k))) j)) (i * 7) c 7 % 8380417)) c hc.1 (by omega)
              have q6 := kgYs_b (s := 2) (g := (fun k => I 178 (0 + k))) (m := 7 + i) (j := c)
              rw [show pE 2 = 2 from rfl] at q6
              have q7 := kgT_in (s := 2) (g := (fun k => I 178 (0 + k))) (m := i) c hc.1 (by omega)
              refine aw_aload_n d_Mo_dsaKeys_385 rfl rfl ?_
              refine ax_getR (b := 204) d_Mo_dsaKeys_386 fd_Mo_76 (k_175 S) (r_175_28 S) ?_
              refine aw_bipush d_Mo_dsaKeys_389 ⟨by decide, by decide⟩ (by decide) ?_
              refine ax_aald (b := 245) d_Mo_dsaKeys_391 ⟨by rw [(k_204 S)]; decide, by rw [(k_204 S)]; decide⟩ (by omega) (by rw [n_204 S]; omega) (g_204 S (j := 40) (by decide) (by decide)) ?_
              refine aw_iload d_Mo_dsaKeys_392 rfl ?_
              refine ax_ialde (x := bck rt (fun c => pS (kgA 2 (fun k => I 178 (0 + k))) (fun j => fwd rt ((kgY 2 (fun k => I 178 (0 + k))) j)) (i * 7) c 7 % 8380417) c) d_Mo_dsaKeys_394 (k_245 S) (by omega) (by rw [n_245 S]; omega) (r5 (by omega)) ?_
              refine aw_aload_n d_Mo_dsaKeys_395 rfl rfl ?_
              refine ax_getR (b := 204) d_Mo_dsaKeys_396 fd_Mo_76 (k_175 S) (r_175_28 S) ?_
              refine aw_aload_n d_Mo_dsaKeys_399 rfl rfl ?_
              refine ax_getIe (x := 7) d_Mo_dsaKeys_400 fd_Mo_226 (k_175 S) (Eq.trans (f1 175 32 (Or.inl (by decide)) (Or.inr (by decide)) (by omega)) (Eq.trans (rowTo_ne (by decide)) (Eq.trans (F.1 175 32 (by omega) (Or.inr (by decide))) (dr2_32 D)))) ?_
              refine aw_iload d_Mo_dsaKeys_403 rfl ?_
              refine ax_iadd d_Mo_dsaKeys_405 ⟨(by omega), (by omega)⟩ ?_
              refine ax_aald (b := 205 + (7 + i).toNat) d_Mo_dsaKeys_406 ⟨by rw [(k_204 S)]; decide, by rw [(k_204 S)]; decide⟩ (by omega) (by rw [n_204 S]; omega) (g_204 S (by omega) (by omega)) ?_
              refine aw_iload d_Mo_dsaKeys_407 rfl ?_
              refine ax_ialde (x := (kgYs 2 (fun k => I 178 (0 + k))) (7 + i) c) d_Mo_dsaKeys_409 (kr_204 S (by omega)) (by omega) (by rw [nr_204 S (by omega)]; omega) (r6 (by omega)) ?_
              refine ax_iadd d_Mo_dsaKeys_410 ⟨(by omega), (by omega)⟩ ?_
              refine aw_ldcw (n := 8380417) d_Mo_dsaKeys_411 lc_Mo_264 ⟨by decide, by decide⟩ ?_
              refine ax_iadd d_Mo_dsaKeys_414 ⟨(by omega), (by omega)⟩ ?_
              refine aw_ldcw (n := 8380417) d_Mo_dsaKeys_415 lc_Mo_264 ⟨by decide, by decide⟩ ?_
              refine ax_irem d_Mo_dsaKeys_418 (by omega) (by omega) ?_
              refine ax_ti (x := (kgT 2 (fun k => I 178 (0 + k))) i c) (by unfold kgT; rw [show pL 2 = 7 from rfl, kgY_Ys, show (7 : Int).toNat = 7 from rfl]; omega) ?_
              refine aw_istore (lv' := [(7, vi ((kgT 2 (fun k => I 178 (0 + k))) i c)), (6, vi c), (5, vi i), (4, vi 11520), (0, vr 175)]) d_Mo_dsaKeys_419 (by decide) rfl ?_
              refine aw_iload d_Mo_dsaKeys_421 rfl ?_
              refine aw_sipush d_Mo_dsaKeys_423 ⟨by decide, by decide⟩ (by decide) ?_
              refine ax_irem d_Mo_dsaKeys_426 (by omega) (by omega) ?_
              refine aw_istore (lv' := [(8, vi (((kgT 2 (fun k => I 178 (0 + k))) i c) % 8192)), (7, vi ((kgT 2 (fun k => I 178 (0 + k))) i c)), (6, vi c), (5, vi i), (4, vi 11520), (0, vr 175)]) d_Mo_dsaKeys_427 (by decide) rfl ?_
              refine aw_iload d_Mo_dsaKeys_429 rfl ?_
              refine aw_sipush d_Mo_dsaKeys_431 ⟨by decide, by decide⟩ (by decide) ?_
              refine aw_icmp_le (tgt := 443) d_Mo_dsaKeys_434 (by decide) (fun c_434 => ?_) (fun c_434 => ?_)
              · skip
                refine aw_aload_n d_Mo_dsaKeys_443 rfl rfl ?_
                refine ax_getR (b := 204) d_Mo_dsaKeys_444 fd_Mo_76 (k_175 S) (r_175_28 S) ?_
                refine aw_bipush d_Mo_dsaKeys_447 ⟨by decide, by decide⟩ (by decide) ?_
                refine aw_iload d_Mo_dsaKeys_449 rfl ?_
                refine ax_iadd d_Mo_dsaKeys_451 ⟨(by omega), (by omega)⟩ ?_
                refine ax_aald (b := 205 + (20 + i).toNat) d_Mo_dsaKeys_452 ⟨by rw [(k_204 S)]; decide, by rw [(k_204 S)]; decide⟩ (by omega) (by rw [n_204 S]; omega) (g_204 S (by omega) (by omega)) ?_
                refine aw_iload d_Mo_dsaKeys_453 rfl ?_
                refine aw_iload d_Mo_dsaKeys_455 rfl ?_
                refine ax_iast d_Mo_dsaKeys_457 (kr_204 S (by omega)) (by omega) (by omega) (by rw [nr_204 S (by omega)]; omega) ?_
                have tv : ((kgT 2 (fun k => I 178 (0 + k))) i c - (((kgT 2 (fun k => I 178 (0 + k))) i c) % 8192)) / 8192 = ((kgT 2 (fun k => I 178 (0 + k))) i c + 4096 - 1) / 8192 := by omega
                refine aw_aload_n d_Mo_dsaKeys_458 rfl rfl ?_
                refine aw_aload_n d_Mo_dsaKeys_459 rfl rfl ?_
                refine ax_getR (b := 263) d_Mo_dsaKeys_460 fd_Mo_87 (k_175 S) (r_175_31 S) ?_
                refine aw_iconst d_Mo_dsaKeys_463 ⟨by decide, by decide⟩ ?_
                refine aw_iload d_Mo_dsaKeys_464 rfl ?_
                refine aw_iload d_Mo_dsaKeys_466 rfl ?_
                refine ax_isub d_Mo_dsaKeys_468 ⟨(by omega), (by omega)⟩ ?_
                refine aw_sipush d_Mo_dsaKeys_469 ⟨by decide, by decide⟩ (by decide) ?_
                refine ax_idiv d_Mo_dsaKeys_472 ⟨(by omega), (by omega)⟩ (by omega) ?_
                refine aw_bipush d_Mo_dsaKeys_473 ⟨by decide, by decide⟩ (by decide) ?_
                refine ax_Vr (st := []) (as := [vr 263, vi 0, vi ((((kgT 2 (fun k => I 178 (0 + k))) i c) - (((kgT 2 (fun k => I 178 (0 + k))) i c) % 8192)) / 8192), vi 10]) (b := 175) d_Mo_dsaKeys_475 cs_Mo_dsaKeys_475 (k_175 S) (c_Mo_putBits (q := 10 * c.toNat) (V := bV (fun j => ((kgT 2 (fun k => I 178 (0 + k))) i j + 4096 - 1) / 8192) 10 c.toNat) (c := 320 * i) (d := 10) S ⟨k_263 S, by decide, by decide⟩ (by decide) (by rw [tv, show (2 ^ 10 : Int) = 1024 by decide]; omega) (by rw [a_up_ne (Or.inl (by omega))]; omega) (by rw [show (a_up K4 (205 + (20 + i).toNat) c _ : Nat → Int → Int) 263 = K4 263 from funext (fun z => a_up_ne (Or.inl (by omega)))]; exact g1) (by rw [n_263 S]; omega)) rfl rfl rfl (fun u_475 q_475 => ?_)
                obtain ⟨q1, q2, q3⟩ := q_475
                show AW l G M_Mo_dsaKeys P 478 [(8, vi (((kgT 2 (fun k => I 178 (0 + k))) i c) % 8192)), (7, vi ((kgT 2 (fun k => I 178 (0 + k))) i c)), (6, vi c), (5, vi i), (4, vi 11520), (0, vr 175)] [] (sD h u_475 u_371)
                refine ax_iinc (lv' := [(6, vi (c + 1)), (8, vi (((kgT 2 (fun k => I 178 (0 + k))) i c) % 8192)), (7, vi ((kgT 2 (fun k => I 178 (0 + k))) i c)), (5, vi i), (4, vi 11520), (0, vr 175)]) d_Mo_dsaKeys_478 rfl (by decide) ⟨(by omega), (by omega)⟩ rfl ?_
                refine aw_goto (tgt := 377) d_Mo_dsaKeys_481 (by decide) ?_
                refine aw_sub (lv' := [(6, vi (c + 1)), (5, vi i), (4, vi 11520), (0, vr 175)]) (by simp) ?_
                exact ih_377 _ (by omega) (c + 1) u_475 (by omega) ((Fc.tr (FR.up (p := fun a => a = 205 + (20 + i).toNat) rfl) (r := fun a => a = 263 ∨ a = 205 + (20 + i).toNat) (by intro a x; omega)).tr (FR.bits (p := fun a => a = 263) q1 rfl) (by intro a x; omega)) (fun a j x y z => (q1 a j x y).trans ((a_up_ne (Or.inl z)).trans (f1 a j x y z))) (by omega) (by rw [show (c + 1).toNat = c.toNat + 1 by omega]; show bIn _ _ (bV (fun j => ((kgT 2 (fun k => I 178 (0 + k))) i j + 4096 - 1) / 8192) 10 c.toNat + ((kgT 2 (fun k => I 178 (0 + k))) i (c.toNat : Int) + 4096 - 1) / 8192 * 2 ^ (10 * c.toNat)) _; rw [Int.toNat_of_nonneg hc.1, ← tv]; exact q3) (fun j a b => by rw [q1 _ j (Or.inl (by omega)) (Or.inl (by omega))]; by_cases v : j = c; exact (by rw [v, a_up_at]; show _ = (kgT 2 (fun k => I 178 (0 + k))) i c - ((kgT 2 (fun k => I 178 (0 + k))) i c + 4096 - 1) / 8192 * 8192; omega); exact (by rw [a_up_ne (Or.inr v)]; exact lw j a (by omega))) rfl
              · skip
                refine ax_iincW (lv' := [(8, vi (((kgT 2 (fun k => I 178 (0 + k))) i c) % 8192 + (-8192))), (7, vi ((kgT 2 (fun k => I 178 (0 + k))) i c)), (6, vi c), (5, vi i), (4, vi 11520), (0, vr 175)]) d_Mo_dsaKeys_437 rfl (by decide) ⟨(by omega), (by omega)⟩ rfl ?_
                refine aw_aload_n d_Mo_dsaKeys_443 rfl rfl ?_
                refine ax_getR (b := 204) d_Mo_dsaKeys_444 fd_Mo_76 (k_175 S) (r_175_28 S) ?_
                refine aw_bipush d_Mo_dsaKeys_447 ⟨by decide, by decide⟩ (by decide) ?_
                refine aw_iload d_Mo_dsaKeys_449 rfl ?_
                refine ax_iadd d_Mo_dsaKeys_451 ⟨(by omega), (by omega)⟩ ?_
                refine ax_aald (b := 205 + (20 + i).toNat) d_Mo_dsaKeys_452 ⟨by rw [(k_204 S)]; decide, by rw [(k_204 S)]; decide⟩ (by omega) (by rw [n_204 S]; omega) (g_204 S (by omega) (by omega)) ?_
                refine aw_iload d_Mo_dsaKeys_453 rfl ?_
                refine aw_iload d_Mo_dsaKeys_455 rfl ?_
                refine ax_iast d_Mo_dsaKeys_457 (kr_204 S (by omega)) (by omega) (by omega) (by rw [nr_204 S (by omega)]; omega) ?_
                have tv : ((kgT 2 (fun k => I 178 (0 + k))) i c - (((kgT 2 (fun k => I 178 (0 + k))) i c) % 8192 + (-8192))) / 8192 = ((kgT 2 (fun k => I 178 (0 + k))) i c + 4096 - 1) / 8192 := by omega
                refine aw_aload_n d_Mo_dsaKeys_458 rfl rfl ?_
                refine aw_aload_n d_Mo_dsaKeys_459 rfl rfl ?_
                refine ax_getR (b := 263) d_Mo_dsaKeys_460 fd_Mo_87 (k_175 S) (r_175_31 S) ?_
                refine aw_iconst d_Mo_dsaKeys_463 ⟨by decide, by decide⟩ ?_
                refine aw_iload d_Mo_dsaKeys_464 rfl ?_
                refine aw_iload d_Mo_dsaKeys_466 rfl ?_
                refine ax_isub d_Mo_dsaKeys_468 ⟨(by omega), (by omega)⟩ ?_
                refine aw_sipush d_Mo_dsaKeys_469 ⟨by decide, by decide⟩ (by decide) ?_
                refine ax_idiv d_Mo_dsaKeys_472 ⟨(by omega), (by omega)⟩ (by omega) ?_
                refine aw_bipush d_Mo_dsaKeys_473 ⟨by decide, by decide⟩ (by decide) ?_
                refine ax_Vr (st := []) (as := [vr 263, vi 0, vi ((((kgT 2 (fun k => I 178 (0 + k))) i c) - (((kgT 2 (fun k => I 178 (0 + k))) i c) % 8192 + (-8192))) / 8192), vi 10]) (b := 175) d_Mo_dsaKeys_475 cs_Mo_dsaKeys_475 (k_175 S) (c_Mo_putBits (q := 10 * c.toNat) (V := bV (fun j => ((kgT 2 (fun k => I 178 (0 + k))) i j + 4096 - 1) / 8192) 10 c.toNat) (c := 320 * i) (d := 10) S ⟨k_263 S, by decide, by decide⟩ (by decide) (by rw [tv, show (2 ^ 10 : Int) = 1024 by decide]; omega) (by rw [a_up_ne (Or.inl (by omega))]; omega) (by rw [show (a_up K4 (205 + (20 + i).toNat) c _ : Nat → Int → Int) 263 = K4 263 from funext (fun z => a_up_ne (Or.inl (by omega)))]; exact g1) (by rw [n_263 S]; omega)) rfl rfl rfl (fun u_475 q_475 => ?_)
                obtain ⟨q1, q2, q3⟩ := q_475
                show AW l G M_Mo_dsaKeys P 478 [(8, vi (((kgT 2 (fun k => I 178 (0 + k))) i c) % 8192 + (-8192))), (7, vi ((kgT 2 (fun k => I 178 (0 + k))) i c)), (6, vi c), (5, vi i), (4, vi 11520), (0, vr 175)] [] (sD h u_475 u_371)
                refine ax_iinc (lv' := [(6, vi (c + 1)), (8, vi (((kgT 2 (fun k => I 178 (0 + k))) i c) % 8192 + (-8192))), (7, vi ((kgT 2 (fun k => I 178 (0 + k))) i c)), (5, vi i), (4, vi 11520), (0, vr 175)]) d_Mo_dsaKeys_478 rfl (by decide) ⟨(by omega), (by omega)⟩ rfl ?_
                refine aw_goto (tgt := 377) d_Mo_dsaKeys_481 (by decide) ?_
                refine aw_sub (lv' := [(6, vi (c + 1)), (5, vi i), (4, vi 11520), (0, vr 175)]) (by simp) ?_
                exact ih_377 _ (by omega) (c + 1) u_475 (by omega) ((Fc.tr (FR.up (p := fun a => a = 205 + (20 + i).toNat) rfl) (r := fun a => a = 263 ∨ a = 205 + (20 + i).toNat) (by intro a x; omega)).tr (FR.bits (p := fun a => a = 263) q1 rfl) (by intro a x; omega)) (fun a j x y z => (q1 a j x y).trans ((a_up_ne (Or.inl z)).trans (f1 a j x y z))) (by omega) (by rw [show (c + 1).toNat = c.toNat + 1 by omega]; show bIn _ _ (bV (fun j => ((kgT 2 (fun k => I 178 (0 + k))) i j + 4096 - 1) / 8192) 10 c.toNat + ((kgT 2 (fun k => I 178 (0 + k))) i (c.toNat : Int) + 4096 - 1) / 8192 * 2 ^ (10 * c.toNat)) _; rw [Int.toNat_of_nonneg hc.1, ← tv]; exact q3) (fun j a b => by rw [q1 _ j (Or.inl (by omega)) (Or.inl (by omega))]; by_cases v : j = c; exact (by rw [v, a_up_at]; show _ = (kgT 2 (fun k => I 178 (0 + k))) i c - ((kgT 2 (fun k => I 178 (0 + k))) i c + 4096 - 1) / 8192 * 8192; omega); exact (by rw [a_up_ne (Or.inr v)]; exact lw j a (by omega))) rfl
          skip
          exact lp_377 _ 0 (rowTo K2 245 256 (itp (K2 245))) (by omega) (FR.rfl') (fun _ _ _ _ _ => rfl) (by rw [rowTo_ne (by decide), b3]; omega) (⟨⟨Int.le_refl _, by simp [bV]⟩, fun m hm => absurd hm (by simp)⟩) (fun j a b => by omega) rfl
        · skip
          refine aw_aload_n d_Mo_dsaKeys_303 rfl rfl ?_
          refine aw_aload_n d_Mo_dsaKeys_304 rfl rfl ?_
          refine aw_aload_n d_Mo_dsaKeys_305 rfl rfl ?_
          refine ax_getR (b := 204) d_Mo_dsaKeys_306 fd_Mo_76 (k_175 S) (r_175_28 S) ?_
          refine aw_bipush d_Mo_dsaKeys_309 ⟨by decide, by decide⟩ (by decide) ?_
          refine ax_aald (b := 246) d_Mo_dsaKeys_311 ⟨by rw [(k_204 S)]; decide, by rw [(k_204 S)]; decide⟩ (by omega) (by rw [n_204 S]; omega) (g_204 S (j := 41) (by decide) (by decide)) ?_
          refine aw_aload_n d_Mo_dsaKeys_312 rfl rfl ?_
          refine ax_getR (b := 202) d_Mo_dsaKeys_313 fd_Mo_68 (k_175 S) (r_175_25 S) ?_
          refine aw_iconst d_Mo_dsaKeys_316 ⟨by decide, by decide⟩ ?_
          refine aw_iload d_Mo_dsaKeys_317 rfl ?_
          refine aw_iload d_Mo_dsaKeys_319 rfl ?_
          refine ax_Vr (st := [vr 175]) (as := [vr 246, vr 202, vi 0, vi j, vi i]) (b := 175) d_Mo_dsaKeys_321 cs_Mo_dsaKeys_321 (k_175 S) (by have z := c_Mo_sampleWide (l := l) (G := G) (I := K2) (L := M2) (f := 246) (r := 202) (pa := 0) (x := j) (y := i) S D2.1 ⟨k_246 S, by decide, n_246 S⟩ (by decide) ⟨k_202 S, by decide, by decide⟩ (by rw [n_202 S]; decide); rw [wide_HR hs2 (kgSd_m _ _)] at z; exact z) rfl rfl rfl (fun u_321 q_321 => ?_)
          obtain ⟨I3, L3⟩ := u_321
          obtain ⟨f3, r3⟩ := q_321
          dsimp only at f3 r3 ⊢
          by_cases ok_321 : (wide (kgSd 2 (fun k => I 178 (0 + k))) j i).2.1 = 256
          · skip
            rw [if_pos ok_321]
            show AW l G M_Mo_dsaKeys P 324 [(6, vi j), (5, vi i), (4, vi 11520), (0, vr 175)] [vi 1, vr 175] (sD h I3 L3)
            refine aw_iconst d_Mo_dsaKeys_324 ⟨by decide, by decide⟩ ?_
            refine ax_V (st := []) (as := [vi 1, vi 3]) (b := 175) (v := some (vi 1)) (h' := sD h (a_up I3 175 4 0) L3) d_Mo_dsaKeys_325 cs_Mo_dsaKeys_325 (k_175 S) (c_good1 S rfl) rfl rfl rfl ?_
            show AW l G M_Mo_dsaKeys P 328 [(6, vi j), (5, vi i), (4, vi 11520), (0, vr 175)] [vi 1] (sD h (a_up I3 175 4 0) L3)
            refine aw_if_ne (tgt := 333) d_Mo_dsaKeys_328 (by decide) (fun c_328 => ?_) (fun c_328 => False.elim (by omega))
            refine aw_aload_n d_Mo_dsaKeys_333 rfl rfl ?_
            refine ax_getR (b := 204) d_Mo_dsaKeys_334 fd_Mo_76 (k_175 S) (r_175_28 S) ?_
            refine aw_bipush d_Mo_dsaKeys_337 ⟨by decide, by decide⟩ (by decide) ?_
            refine ax_aald (b := 245) d_Mo_dsaKeys_339 ⟨by rw [(k_204 S)]; decide, by rw [(k_204 S)]; decide⟩ (by omega) (by rw [n_204 S]; omega) (g_204 S (j := 40) (by decide) (by decide)) ?_
            refine aw_aload_n d_Mo_dsaKeys_340 rfl rfl ?_
            refine ax_getR (b := 204) d_Mo_dsaKeys_341 fd_Mo_76 (k_175 S) (r_175_28 S) ?_
            refine aw_bipush d_Mo_dsaKeys_344 ⟨by decide, by decide⟩ (by decide) ?_
            refine ax_aald (b := 246) d_Mo_dsaKeys_346 ⟨by rw [(k_204 S)]; decide, by rw [(k_204 S)]; decide⟩ (by omega) (by rw [n_204 S]; omega) (g_204 S (j := 41) (by decide) (by decide)) ?_
            refine aw_aload_n d_Mo_dsaKeys_347 rfl rfl ?_
            refine ax_getR (b := 204) d_Mo_dsaKeys_348 fd_Mo_76 (k_175 S) (r_175_28 S) ?_
            refine aw_iload d_Mo_dsaKeys_351 rfl ?_
            refine ax_aald (b := 205 + j.toNat) d_Mo_dsaKeys_353 ⟨by rw [(k_204 S)]; decide, by rw [(k_204 S)]; decide⟩ (by omega) (by rw [n_204 S]; omega) (g_204 S (by omega) (by omega)) ?_
            refine ax_S (st := []) (as := [vr 245, vr 246, vr (205 + j.toNat)]) (v := none) (h' := sD h (rowTo (a_up I3 175 4 0) 245 256 (fun x => ((a_up I3 175 4 0) 245 x + (a_up I3 175 4 0) 246 x * (a_up I3 175 4 0) (205 + j.toNat) x) % 8380417)) L3) d_Mo_dsaKeys_354 cs_Mo_dsaKeys_354 (c_Mo_addProducts ⟨k_245 S, by decide, n_245 S⟩ ⟨k_246 S, by decide, n_246 S⟩ ⟨kr_204 S (by omega), by omega, nr_204 S (by omega)⟩ (fun x a b => by rw [a_up_ne (Or.inl (by decide)), f3.1 245 x (Or.inl (by decide)) (by decide), r2 x a b]; show 0 ≤ _ % 8380417 ∧ _ % 8380417 < 8380417; exact ⟨Int.emod_nonneg _ (by decide), Int.emod_lt_of_pos _ (by decide)⟩) (fun x a b => by rw [a_up_ne (Or.inl (by decide)), r3 x a (by rw [ok_321]; exact b)]; exact wide_b.2 x) (fun x a b => by rw [a_up_ne (Or.inl (by omega)), f3.1 _ x (Or.inl (by omega)) (by omega), F.1 _ x (by omega) (Or.inl (by omega)), hV j hj.1 (by omega) x a b]; exact fwd_in kgY_in x a b)) rfl rfl rfl ?_
            show AW l G M_Mo_dsaKeys P 357 [(6, vi j), (5, vi i), (4, vi 11520), (0, vr 175)] [] (sD h (rowTo (a_up I3 175 4 0) 245 256 (fun x => ((a_up I3 175 4 0) 245 x + (a_up I3 175 4 0) 246 x * (a_up I3 175 4 0) (205 + j.toNat) x) % 8380417)) L3)
            refine ax_iinc (lv' := [(6, vi (j + 1)), (5, vi i), (4, vi 11520), (0, vr 175)]) d_Mo_dsaKeys_357 rfl (by decide) ⟨(by omega), (by omega)⟩ rfl ?_
            refine aw_goto (tgt := 294) d_Mo_dsaKeys_360 (by decide) ?_
            exact ih_294 _ (by omega) (j + 1) (rowTo (a_up I3 175 4 0) 245 256 (fun x => ((a_up I3 175 4 0) 245 x + (a_up I3 175 4 0) 246 x * (a_up I3 175 4 0) (205 + j.toNat) x) % 8380417)) L3 (by omega) (((F.tr (FR.smp (p := fun a => a = 246) f3 rfl) (r := fun a => a = 245 ∨ a = 246) (by intro a x; omega)).tr (FR.c0 (p := fun _ => False)) (r := fun a => a = 245 ∨ a = 246) (by intro a x; exact ⟨x, fun z => z⟩)).tr (FR.row (p := fun a => a = 245) rfl (fun _ _ _ => rfl)) (by intro a x; omega)) (fun x a b => by rw [rowTo_in a b, a_up_ne (Or.inl (by decide)), a_up_ne (Or.inl (by decide)), a_up_ne (Or.inl (by omega)), f3.1 245 x (Or.inl (by decide)) (by decide), r2 x a b, r3 x a (by rw [ok_321]; exact b), f3.1 _ x (Or.inl (by omega)) (by omega), F.1 _ x (by omega) (Or.inl (by omega)), hV j hj.1 (by omega) x a b, show (j + 1).toNat = j.toNat + 1 by omega]; show _ = (pS (kgA 2 (fun k => I 178 (0 + k))) (fun j => fwd rt ((kgY 2 (fun k => I 178 (0 + k))) j)) (i * 7) x j.toNat + (kgA 2 (fun k => I 178 (0 + k))) (i * 7 + (j.toNat : Int)) x * (fwd rt ((kgY 2 (fun k => I 178 (0 + k))) (j.toNat : Int)) x)) % 8380417; rw [Int.toNat_of_nonneg hj.1, show (kgA 2 (fun k => I 178 (0 + k))) (i * 7 + j) x = (wide (kgSd 2 (fun k => I 178 (0 + k))) j i).2.2 x from by unfold kgA; rw [show pL 2 = 7 from rfl, show (i * 7 + j) % 7 = j by omega, show (i * 7 + j) / 7 = i by omega]]; exact Int.emod_add_emod _ _ _) (fun m a b => by by_cases z : m = j; exact (by rw [z]; exact ok_321); exact okJ m a (by omega)) (by rw [rowTo_ne (by decide), a_up_at]) (by rw [rowTo_ne (by decide), a_up_ne (Or.inr (by decide)), f3.1 175 23 (Or.inr (by decide)) (by decide)]; exact b3) rfl
          · skip
            rw [if_neg ok_321]
            show AW l G M_Mo_dsaKeys P 324 [(6, vi j), (5, vi i), (4, vi 11520), (0, vr 175)] [vi 0, vr 175] (sD h I3 L3)
            refine aw_iconst d_Mo_dsaKeys_324 ⟨by decide, by decide⟩ ?_
            refine ax_V (st := []) (as := [vi 0, vi 3]) (b := 175) (v := some (vi 0)) (h' := sD h (a_up I3 175 4 3) L3) d_Mo_dsaKeys_325 cs_Mo_dsaKeys_325 (k_175 S) (c_good0 S rfl) rfl rfl rfl ?_
            show AW l G M_Mo_dsaKeys P 328 [(6, vi j), (5, vi i), (4, vi 11520), (0, vr 175)] [vi 0] (sD h (a_up I3 175 4 3) L3)
            refine aw_if_ne (tgt := 333) d_Mo_dsaKeys_328 (by decide) (fun c_328 => False.elim (by omega)) (fun c_328 => ?_)
            refine aw_iconst d_Mo_dsaKeys_331 ⟨by decide, by decide⟩ ?_
            exact aw_iret d_Mo_dsaKeys_332 rfl (hP _ _ (rsNo 0 3 (cKeys_3 (by decide) n0 (fun z => ok_321 (by have y := z.1 (i * 7 + j) (by omega) (by show i * 7 + j < 56; omega); rw [show pL 2 = 7 from rfl, show (i * 7 + j) % 7 = j by omega, show (i * 7 + j) / 7 = i by omega] at y; exact y))) (by decide) a_up_at (fR0.fr (fR0.fr (fR0.fr R F (r := qN) (by intro a x y; exact ⟨fun z => z, by omega⟩) (by decide)) (FR.smp (p := fun a => a = 246) f3 rfl) (r := qN) (by intro a x y; exact ⟨fun z => z, by omega⟩) (by decide)) (FR.c0 (p := fun _ => False)) (by intro a x y; exact ⟨fun z => z, fun z => z⟩) (fun z => z))))
      skip
      exact lp_294 _ 0 (rowTo K 245 256 (fun _ => 0)) M (by omega) (FR.row (p := fun a => a = 245 ∨ a = 246) (by omega) (fun _ _ _ => rfl)) (fun x a b => by rw [rowTo_in a b]; rfl) (fun m a b => by omega) (by rw [rowTo_ne (by decide)]; exact h4) (by rw [rowTo_ne (by decide)]; exact b1) rfl
  exact lp_272 _ 0 K M (by omega) (R) (D) (hs) (hb) (hV) (hE) (b1) (fun z x y => by omega) (fun m a b => by omega) (h4) (fun m a b => by omega) rfl
set_option maxHeartbeats 2000000 in
set_option maxRecDepth 100000 in
theorem kB2 {l : Launch} {G : a_G} {P : a_R → Hp → Prop} {h : Hp} {I L K M : Nat → Int → Int} (S : Shp h) (n0 : I 186 0 = 32) (R0 : fR0 qN I L K M) (D : RD K M 2) (hs : HR K 202 0 128 (kgSd 2 (fun k => I 178 (0 + k)))) (hY : ∀ m, 0 ≤ m → m < 15 → eqQ (K (205 + m.toNat)) ((kgYs 2 (fun k => I 178 (0 + k))) m)) (h4 : K 175 4 = 0) (okS : ∀ m, 0 ≤ m → m < pK 2 + pL 2 → (sml (pE 2) (fun x => (kgSd 2 (fun k => I 178 (0 + k))) (32 + x)) m).2.1 = 256) (hP : ∀ r_ h2_, RsR h I L (cKeys 2 (I 186 0) (fun k => I 178 (0 + k))) (fun a => a = 179 ∨ a = 180 ∨ a = 186) (fun v I' _ => v = sSec 2 ∧ ((∀ j, j ≠ 1 → j ≠ 2 → I' 186 j = I 186 j) ∧ I' 186 1 = 32 + 320 * pK 2 ∧ I' 186 2 = sSec 2) ∧ (HR I' 179 0 (32 + 320 * pK 2) (kgPk 2 (fun k => I 178 (0 + k))) ∧ rng (I 179) (I' 179)) ∧ HR I' 180 0 (sSec 2) (kgSk 2 (fun k => I 178 (0 + k))) ∧ rng (I 180) (I' 180)) r_ h2_ → P r_ h2_) : AW l G M_Mo_dsaKeys P 156 [(0, vr 175)] [] (sD h K M) := by
  refine aw_aload_n d_Mo_dsaKeys_156 rfl rfl ?_
  refine ax_getIe (x := 2) d_Mo_dsaKeys_157 fd_Mo_229 (k_175 S) (dr2_33 D) ?_
  refine aw_iconst d_Mo_dsaKeys_160 ⟨by decide, by decide⟩ ?_
  refine aw_icmp_ne (tgt := 168) d_Mo_dsaKeys_161 (by decide) (fun c_161 => False.elim (by omega)) (fun c_161 => ?_)
  refine aw_iconst d_Mo_dsaKeys_164 ⟨by decide, by decide⟩ ?_
  refine aw_goto (tgt := 169) d_Mo_dsaKeys_165 (by decide) ?_
  refine aw_istore_n (lv' := [(3, vi 3), (0, vr 175)]) d_Mo_dsaKeys_169 rfl (by decide) rfl ?_
  refine aw_aload_n d_Mo_dsaKeys_170 rfl rfl ?_
  refine aw_iconst d_Mo_dsaKeys_171 ⟨by decide, by decide⟩ ?_
  refine ax_putI d_Mo_dsaKeys_172 fd_Mo_216 (k_175 S) (by decide) rfl ?_
  refine aw_iconst d_Mo_dsaKeys_175 ⟨by decide, by decide⟩ ?_
  refine aw_istore (lv' := [(4, vi 0), (3, vi 3), (0, vr 175)]) d_Mo_dsaKeys_176 (by decide) rfl ?_
  have lp_178 : ∀ (n_ : Nat) (i : Int) (K2 : Nat → Int → Int), (0 ≤ i ∧ i ≤ 15) → (FR (fun a => a = 262) K M K2 M) → (K2 175 23 = 8 * (96 * i)) → (HR K2 262 0 (96 * i) (fun x => gB (fun j => 2 - (kgYs 2 (fun k => I 178 (0 + k))) (x / 96) j) 3 (x % 96))) → (K2 175 4 = 0) → ((15 - i).toNat) = n_ → AW l G M_Mo_dsaKeys P 178 [(4, vi i), (3, vi 3), (0, vr 175)] [] (sD h K2 M) := by
    intro n_
    induction n_ using Nat.strongRecOn with
    | _ n_ ih_178 =>
    intro i K2 hi F b1 hb c4 hm_178
    refine aw_iload d_Mo_dsaKeys_178 rfl ?_
    refine aw_aload_n d_Mo_dsaKeys_180 rfl rfl ?_
    refine ax_getIe (x := 7) d_Mo_dsaKeys_181 fd_Mo_226 (k_175 S) (Eq.trans (F.1 175 32 (by omega) (Or.inr (by decide))) (dr2_32 D)) ?_
    refine aw_aload_n d_Mo_dsaKeys_184 rfl rfl ?_
    refine ax_getIe (x := 8) d_Mo_dsaKeys_185 fd_Mo_223 (k_175 S) (Eq.trans (F.1 175 26 (by omega) (Or.inr (by decide))) (dr2_26 D)) ?_
    refine ax_iadd d_Mo_dsaKeys_188 ⟨(by omega), (by omega)⟩ ?_
    refine ax_ti (x := 15) (by decide) ?_
    refine aw_icmp_ge (tgt := 219) d_Mo_dsaKeys_189 (by decide) (fun c_189 => ?_) (fun c_189 => ?_)
    · skip
      refine aw_aload_n d_Mo_dsaKeys_219 rfl rfl ?_
      refine ax_getIe (x := 11520) d_Mo_dsaKeys_220 fd_Mo_216 (k_175 S) (b1.trans (by omega)) ?_
      refine aw_istore (lv' := [(4, vi 11520), (3, vi 3), (0, vr 175)]) d_Mo_dsaKeys_223 (by decide) rfl ?_
      refine aw_iconst d_Mo_dsaKeys_225 ⟨by decide, by decide⟩ ?_
      refine aw_istore (lv' := [(5, vi 0), (4, vi 11520), (3, vi 3), (0, vr 175)]) d_Mo_dsaKeys_226 (by decide) rfl ?_
      have lp_228 : ∀ (n_ : Nat) (j : Int) (K3 : Nat → Int → Int) (M3 : Nat → Int → Int), (0 ≤ j ∧ j ≤ 7) → (FR (fun a => a = 262 ∨ 205 ≤ a ∧ a < 212) K M K3 M3) → (HR K3 262 0 1440 (fun x => gB (fun j => 2 - (kgYs 2 (fun k => I 178 (0 + k))) (x / 96) j) 3 (x % 96))) → (∀ m, 0 ≤ m → m < j → eqQ (K3 (205 + m.toNat)) (fwd rt ((kgY 2 (fun k => I 178 (0 + k))) m))) → (∀ m, 0 ≤ m → j ≤ m → m < 15 → eqQ (K3 (205 + m.toNat)) ((kgYs 2 (fun k => I 178 (0 + k))) m)) → (K3 175 4 = 0) → ((7 - j).toNat) = n_ → AW l G M_Mo_dsaKeys P 228 [(5, vi j), (4, vi 11520), (0, vr 175)] [] (sD h K3 M3) := by
        intro n_
        induction n_ using Nat.strongRecOn with
        | _ n_ ih_228 =>
        intro j K3 M3 hj F3 hb3 dn td c43 hm_228
        refine aw_iload d_Mo_dsaKeys_228 rfl ?_
        refine aw_aload_n d_Mo_dsaKeys_230 rfl rfl ?_
        refine ax_getIe (x := 7) d_Mo_dsaKeys_231 fd_Mo_226 (k_175 S) (Eq.trans (F3.1 175 32 (by omega) (Or.inr (by decide))) (dr2_32 D)) ?_
        refine aw_icmp_ge (tgt := 264) d_Mo_dsaKeys_234 (by decide) (fun c_234 => ?_) (fun c_234 => ?_)
        · skip
          refine aw_aload_n d_Mo_dsaKeys_264 rfl rfl ?_
          refine aw_iconst d_Mo_dsaKeys_265 ⟨by decide, by decide⟩ ?_
          refine ax_putI d_Mo_dsaKeys_266 fd_Mo_216 (k_175 S) (by decide) rfl ?_
          refine aw_iconst d_Mo_dsaKeys_269 ⟨by decide, by decide⟩ ?_
          refine aw_istore (lv' := [(5, vi 0), (4, vi 11520), (0, vr 175)]) d_Mo_dsaKeys_270 (by decide) rfl ?_
          refine aw_sub (lv' := [(5, vi 0), (4, vi 11520), (0, vr 175)]) (by simp) ?_
          exact kC2 S n0 (fR0.fr (fR0.fr R0 F3 (r := qN) (by intro a x y; exact ⟨fun z => z, by omega⟩) (by omega)) (FR.b0 (p := fun _ => False)) (by intro a x y; exact ⟨fun z => z, fun z => z⟩) (fun z => z)) ((D.fr F3 (by omega)).fr (FR.b0 (p := fun _ => False)) ⟨fun z => z, fun z => z, fun z => z⟩) ((hs.fr F3 (by omega) (by decide)).fr (L := M3) (L' := M3) (FR.b0 (p := fun _ => False)) (fun z => z) (by decide)) (hb3.fr (L := M3) (L' := M3) (FR.b0 (p := fun _ => False)) (fun z => z) (by decide)) (fun m a b x u v => by rw [a_up_ne (Or.inl (by omega))]; exact dn m a (by omega) x u v) (fun m a b x u v => by rw [a_up_ne (Or.inl (by omega))]; exact td _ (by omega) (by omega) (by omega) x u v) (by rw [a_up_ne (Or.inr (by decide))]; exact c43) (a_up_at.trans (by decide)) okS hP
        · skip
          refine aw_aload_n d_Mo_dsaKeys_237 rfl rfl ?_
          refine ax_getR (b := 204) d_Mo_dsaKeys_238 fd_Mo_76 (k_175 S) (r_175_28 S) ?_
          refine aw_iload d_Mo_dsaKeys_241 rfl ?_
          refine ax_aald (b := 205 + j.toNat) d_Mo_dsaKeys_243 ⟨by rw [(k_204 S)]; decide, by rw [(k_204 S)]; decide⟩ (by omega) (by rw [n_204 S]; omega) (g_204 S (by omega) (by omega)) ?_
          refine ax_S (st := []) (as := [vr (205 + j.toNat)]) (v := none) (h' := sD h (rowTo K3 (205 + j.toNat) 256 (fun x => (K3 (205 + j.toNat) x + 8380417) % 8380417)) M3) d_Mo_dsaKeys_244 cs_Mo_dsaKeys_244 (c_Mo_positive ⟨kr_204 S (by omega), by omega, nr_204 S (by omega)⟩ (fun x u v => by rw [td j hj.1 (Int.le_refl _) (by omega) x u v]; have q_ := kgYs_b (s := 2) (g := (fun k => I 178 (0 + k))) (m := j) (j := x); rw [show pE 2 = 2 from rfl] at q_; omega)) rfl rfl rfl ?_
          show AW l G M_Mo_dsaKeys P 247 [(5, vi j), (4, vi 11520), (0, vr 175)] [] (sD h (rowTo K3 (205 + j.toNat) 256 (fun x => (K3 (205 + j.toNat) x + 8380417) % 8380417)) M3)
          refine aw_aload_n d_Mo_dsaKeys_247 rfl rfl ?_
          refine aw_aload_n d_Mo_dsaKeys_248 rfl rfl ?_
          refine ax_getR (b := 204) d_Mo_dsaKeys_249 fd_Mo_76 (k_175 S) (r_175_28 S) ?_
          refine aw_iload d_Mo_dsaKeys_252 rfl ?_
          refine ax_aald (b := 205 + j.toNat) d_Mo_dsaKeys_254 ⟨by rw [(k_204 S)]; decide, by rw [(k_204 S)]; decide⟩ (by omega) (by rw [n_204 S]; omega) (g_204 S (by omega) (by omega)) ?_
          refine ax_Vr (st := []) (as := [vr (205 + j.toNat)]) (b := 175) d_Mo_dsaKeys_255 cs_Mo_dsaKeys_255 (k_175 S) (c_Mo_evaluate S ⟨kr_204 S (by omega), by omega, nr_204 S (by omega)⟩ (by omega) (fun x u v => by rw [rowTo_in u v]; omega) (fun x u v => by rw [rowTo_ne (by omega)]; exact (D.fr F3 (by omega)).2.2 x u v)) rfl rfl rfl (fun u_255 q_255 => ?_)
          have hl := q_255
          show AW l G M_Mo_dsaKeys P 258 [(5, vi j), (4, vi 11520), (0, vr 175)] [] (sD h (rowTo (rowTo K3 (205 + j.toNat) 256 (fun x => (K3 (205 + j.toNat) x + 8380417) % 8380417)) (205 + j.toNat) 256 (eva ((rowTo K3 (205 + j.toNat) 256 (fun x => (K3 (205 + j.toNat) x + 8380417) % 8380417)) (205 + j.toNat)))) u_255)
          refine ax_iinc (lv' := [(5, vi (j + 1)), (4, vi 11520), (0, vr 175)]) d_Mo_dsaKeys_258 rfl (by decide) ⟨(by omega), (by omega)⟩ rfl ?_
          refine aw_goto (tgt := 228) d_Mo_dsaKeys_261 (by decide) ?_
          exact ih_228 _ (by omega) (j + 1) (rowTo (rowTo K3 (205 + j.toNat) 256 (fun x => (K3 (205 + j.toNat) x + 8380417) % 8380417)) (205 + j.toNat) 256 (eva ((rowTo K3 (205 + j.toNat) 256 (fun x => (K3 (205 + j.toNat) x + 8380417) % 8380417)) (205 + j.toNat)))) u_255 (by omega) ((F3.tr (FR.row (p := fun a => a = 262 ∨ 205 ≤ a ∧ a < 212) (by omega) (fun _ _ _ => rfl)) (fun a x => ⟨x, x⟩)).tr (FR.row (p := fun a => a = 262 ∨ 205 ≤ a ∧ a < 212) (by omega) hl) (fun a x => ⟨x, x⟩)) ((hb3.fr (L := M3) (L' := M3) (FR.row (p := fun a => a = 205 + j.toNat) rfl (fun _ _ _ => rfl)) (by omega) (by decide)).fr (L := M3) (L' := u_255) (FR.row (p := fun a => a = 205 + j.toNat) rfl hl) (by omega) (by decide)) (fun m a b x u v => by by_cases z : m = j; exact (by rw [z, rowTo_in u v, fwd_eva u v]; exact eva_cq (fun t ht => cq.e (by rw [rowTo_in (by omega) (by omega), td j hj.1 (Int.le_refl _) (by omega) t (by omega) (by omega), kgY_Ys, Int.add_emod_right]))); exact (by rw [rowTo_ne (by omega), rowTo_ne (by omega)]; exact dn m a (by omega) x u v)) (fun m a b c x u v => by rw [rowTo_ne (by omega), rowTo_ne (by omega)]; exact td m a (by omega) c x u v) (by rw [rowTo_ne (by omega), rowTo_ne (by omega)]; exact c43) rfl
      skip
      refine aw_sub (lv' := [(5, vi 0), (4, vi 11520), (0, vr 175)]) (by simp) ?_
      exact lp_228 _ 0 K2 M (by omega) (F.mono (by intro a x; omega)) (by rw [show (1440 : Int) = 96 * i by omega]; exact hb) (fun m a b => by omega) (fun m a b c x y z => by rw [F.1 _ _ (by omega) (Or.inl (by omega))]; exact hY m a c x y z) (c4) rfl
    · skip
      refine aw_aload_n d_Mo_dsaKeys_192 rfl rfl ?_
      refine aw_aload_n d_Mo_dsaKeys_193 rfl rfl ?_
      refine ax_getR (b := 262) d_Mo_dsaKeys_194 fd_Mo_84 (k_175 S) (r_175_30 S) ?_
      refine aw_iconst d_Mo_dsaKeys_197 ⟨by decide, by decide⟩ ?_
      refine aw_aload_n d_Mo_dsaKeys_198 rfl rfl ?_
      refine ax_getR (b := 204) d_Mo_dsaKeys_199 fd_Mo_76 (k_175 S) (r_175_28 S) ?_
      refine aw_iload d_Mo_dsaKeys_202 rfl ?_
      refine ax_aald (b := 205 + i.toNat) d_Mo_dsaKeys_204 ⟨by rw [(k_204 S)]; decide, by rw [(k_204 S)]; decide⟩ (by omega) (by rw [n_204 S]; omega) (g_204 S (by omega) (by omega)) ?_
      refine aw_aload_n d_Mo_dsaKeys_205 rfl rfl ?_
      refine ax_getIe (x := 2) d_Mo_dsaKeys_206 fd_Mo_229 (k_175 S) (Eq.trans (F.1 175 33 (by omega) (Or.inr (by decide))) (dr2_33 D)) ?_
      refine aw_iload_n d_Mo_dsaKeys_209 rfl rfl ?_
      refine ax_Vr (st := []) (as := [vr 262, vi 0, vr (205 + i.toNat), vi 2, vi 3]) (b := 175) d_Mo_dsaKeys_210 cs_Mo_dsaKeys_210 (k_175 S) (c_Mo_pack (c := 96 * i) (d := 3) S ⟨k_262 S, by decide, by decide⟩ ⟨kr_204 S (by omega), by omega, nr_204 S (by omega)⟩ (by omega) (by decide) (by omega) (fun j x y => by rw [F.1 _ _ (by omega) (Or.inl (by omega)), hY i hi.1 (by omega) j x y]; have q_ := kgYs_b (s := 2) (g := (fun k => I 178 (0 + k))) (m := i) (j := j); rw [show pE 2 = 2 from rfl] at q_; omega) (by decide) (by rw [n_262 S]; omega)) rfl rfl rfl (fun u_210 q_210 => ?_)
      obtain ⟨q1, q2, q3⟩ := q_210
      show AW l G M_Mo_dsaKeys P 213 [(4, vi i), (3, vi 3), (0, vr 175)] [] (sD h u_210 M)
      refine ax_iinc (lv' := [(4, vi (i + 1)), (3, vi 3), (0, vr 175)]) d_Mo_dsaKeys_213 rfl (by decide) ⟨(by omega), (by omega)⟩ rfl ?_
      refine aw_goto (tgt := 178) d_Mo_dsaKeys_216 (by decide) ?_
      exact ih_178 _ (by omega) (i + 1) u_210 (by omega) (F.tr (FR.bits (p := fun a => a = 262) q1 rfl) (fun a x => ⟨x, x⟩)) (by omega) (fun z x y => by by_cases v : z < 96 * i; exact (by rw [q1 262 _ (Or.inr (by omega)) (Or.inl (by decide))]; exact hb z x v); exact (by have y2 := q3 (z - 96 * i) (by omega) (by omega); rw [show (0 + 96 * i + (z - 96 * i) : Int) = 0 + z by omega] at y2; rw [y2]; show _ = gB (fun j => 2 - (kgYs 2 (fun k => I 178 (0 + k))) (z / 96) j) 3 (z % 96); rw [show z / 96 = i by omega, show z % 96 = z - 96 * i by omega]; exact congrFun (gB_congr (fun j u v => by rw [F.1 _ _ (by omega) (Or.inl (by omega)), hY i hi.1 (by omega) j u v])) _)) ((q1 175 4 (Or.inl (by decide)) (Or.inr (by decide))).trans c4) rfl
  skip
  exact lp_178 _ 0 (a_up K 175 23 0) (by omega) (FR.b0) (by rw [a_up_at]; rfl) (fun z x y => by omega) (by rw [a_up_ne (Or.inr (by decide))]; exact h4) rfl
set_option maxHeartbeats 800000 in
set_option maxRecDepth 100000 in
theorem c_Mo_dsaKeys2 {l : Launch} {G : a_G} {h : Hp} {I L : Nat → Int → Int} (S : Shp h) (RS : RSt I L) : AW l G M_Mo_dsaKeys (RsR h I L (cKeys 2 (I 186 0) (fun k => I 178 (0 + k))) (fun a => a = 179 ∨ a = 180 ∨ a = 186) (fun v I' _ => v = sSec 2 ∧ ((∀ j, j ≠ 1 → j ≠ 2 → I' 186 j = I 186 j) ∧ I' 186 1 = 32 + 320 * pK 2 ∧ I' 186 2 = sSec 2) ∧ (HR I' 179 0 (32 + 320 * pK 2) (kgPk 2 (fun k => I 178 (0 + k))) ∧ rng (I 179) (I' 179)) ∧ HR I' 180 0 (sSec 2) (kgSk 2 (fun k => I 178 (0 + k))) ∧ rng (I 180) (I' 180))) 0 (a_ar 0 [vr 175, vi 2]) [] (sD h I L) := by
  suffices key : ∀ P : a_R → Hp → Prop, (∀ r_ h2_, RsR h I L (cKeys 2 (I 186 0) (fun k => I 178 (0 + k))) (fun a => a = 179 ∨ a = 180 ∨ a = 186) (fun v I' _ => v = sSec 2 ∧ ((∀ j, j ≠ 1 → j ≠ 2 → I' 186 j = I 186 j) ∧ I' 186 1 = 32 + 320 * pK 2 ∧ I' 186 2 = sSec 2) ∧ (HR I' 179 0 (32 + 320 * pK 2) (kgPk 2 (fun k => I 178 (0 + k))) ∧ rng (I 179) (I' 179)) ∧ HR I' 180 0 (sSec 2) (kgSk 2 (fun k => I 178 (0 + k))) ∧ rng (I 180) (I' 180)) r_ h2_ → P r_ h2_) → AW l G M_Mo_dsaKeys P 0 [(0, vr 175), (1, vi 2)] [] (sD h I L) from key _ (fun _ _ q => q)
  intro P hP
  refine aw_aload_n d_Mo_dsaKeys_0 rfl rfl ?_
  refine aw_iload_n d_Mo_dsaKeys_1 rfl rfl ?_
  refine aw_iconst d_Mo_dsaKeys_2 ⟨by decide, by decide⟩ ?_
  refine aw_iconst d_Mo_dsaKeys_3 ⟨by decide, by decide⟩ ?_
  refine ax_S (st := [vr 175]) (as := [vi 2, vi 0, vi 2]) (v := some (vi 1)) (h' := sD h I L) d_Mo_dsaKeys_4 cs_Mo_dsaKeys_4 (c_in1 (by decide)) rfl rfl rfl ?_
  show AW l G M_Mo_dsaKeys P 7 [(0, vr 175), (1, vi 2)] [vi 1, vr 175] (sD h I L)
  refine aw_iconst d_Mo_dsaKeys_7 ⟨by decide, by decide⟩ ?_
  refine ax_V (st := []) (as := [vi 1, vi 1]) (b := 175) (v := some (vi 1)) (h' := sD h (a_up I 175 4 0) L) d_Mo_dsaKeys_8 cs_Mo_dsaKeys_8 (k_175 S) (c_good1 S (rfl)) rfl rfl rfl ?_
  show AW l G M_Mo_dsaKeys P 11 [(0, vr 175), (1, vi 2)] [vi 1] (sD h (a_up I 175 4 0) L)
  refine aw_if_eq (tgt := 38) d_Mo_dsaKeys_11 (by decide) (fun c_11 => False.elim (by omega)) (fun c_11 => ?_)
  refine aw_aload_n d_Mo_dsaKeys_14 rfl rfl ?_
  refine aw_aload_n d_Mo_dsaKeys_15 rfl rfl ?_
  refine ax_getR (b := 186) d_Mo_dsaKeys_16 fd_Mo_18 (k_175 S) (r_175_2 S) ?_
  refine aw_iconst d_Mo_dsaKeys_19 ⟨by decide, by decide⟩ ?_
  refine ax_ialde (x := I 186 0) d_Mo_dsaKeys_20 (k_186 S) (by omega) (by rw [n_186 S]; omega) (Eq.trans (a_up_ne (Or.inl (by decide))) (rfl)) ?_
  refine aw_bipush d_Mo_dsaKeys_21 ⟨by decide, by decide⟩ (by decide) ?_
  refine aw_icmp_ne (tgt := 30) d_Mo_dsaKeys_23 (by decide) (fun c_23 => ?_) (fun c_23 => ?_)
  · skip
    refine aw_iconst d_Mo_dsaKeys_30 ⟨by decide, by decide⟩ ?_
    refine aw_iconst d_Mo_dsaKeys_31 ⟨by decide, by decide⟩ ?_
    refine ax_V (st := []) (as := [vi 0, vi 2]) (b := 175) (v := some (vi 0)) (h' := sD h (a_up I 175 4 2) L) d_Mo_dsaKeys_32 cs_Mo_dsaKeys_32 (k_175 S) (c_good0 S (by rw [a_up_up])) rfl rfl rfl ?_
    show AW l G M_Mo_dsaKeys P 35 [(0, vr 175), (1, vi 2)] [vi 0] (sD h (a_up I 175 4 2) L)
    refine aw_if_ne (tgt := 40) d_Mo_dsaKeys_35 (by decide) (fun c_35 => False.elim (by omega)) (fun c_35 => ?_)
    refine aw_iconst d_Mo_dsaKeys_38 ⟨by decide, by decide⟩ ?_
    exact aw_iret d_Mo_dsaKeys_39 rfl (hP _ _ (rsNo 0 2 (cKeys_2 (by decide) (by omega)) (by decide) a_up_at (fR0.fr fR0.rfl' (FR.c0 (p := fun _ => False)) (by intro a x y; exact ⟨fun z => z, fun z => z⟩) (fun z => z))))
  · skip
    refine aw_iconst d_Mo_dsaKeys_26 ⟨by decide, by decide⟩ ?_
    refine aw_goto (tgt := 31) d_Mo_dsaKeys_27 (by decide) ?_
    refine aw_iconst d_Mo_dsaKeys_31 ⟨by decide, by decide⟩ ?_
    refine ax_V (st := []) (as := [vi 1, vi 2]) (b := 175) (v := some (vi 1)) (h' := sD h (a_up I 175 4 0) L) d_Mo_dsaKeys_32 cs_Mo_dsaKeys_32 (k_175 S) (c_good1 S (by rw [a_up_up])) rfl rfl rfl ?_
    show AW l G M_Mo_dsaKeys P 35 [(0, vr 175), (1, vi 2)] [vi 1] (sD h (a_up I 175 4 0) L)
    refine aw_if_ne (tgt := 40) d_Mo_dsaKeys_35 (by decide) (fun c_35 => ?_) (fun c_35 => False.elim (by omega))
    refine aw_aload_n d_Mo_dsaKeys_40 rfl rfl ?_
    refine aw_iload_n d_Mo_dsaKeys_41 rfl rfl ?_
    refine ax_Vr (st := []) (as := [vi 2]) (b := 175) d_Mo_dsaKeys_42 cs_Mo_dsaKeys_42 (k_175 S) (c_Mo_dsa2 S) rfl rfl rfl (fun u_42 q_42 => ?_)
    obtain ⟨d1, d2, d3⟩ := q_42
    have n0 : I 186 0 = 32 := by omega
    have e0 : ∀ a j, (a < 175 ∨ 176 ≤ a ∧ a ≤ 202 ∨ 204 ≤ a) → u_42 a j = I a j := fun a j x => (d1 a j (by omega) (Or.inl (by omega)) (Or.inl (by omega)) (Or.inl (by omega)) (Or.inl (by omega)) (Or.inl (by omega)) (Or.inl (by omega)) (Or.inl (by omega)) (Or.inl (by omega)) (Or.inl (by omega))).trans (a_up_ne (Or.inl (by omega)))
    have R00 : fR0 qN I L u_42 L := ⟨fun a j x _ => e0 a j (by omega), (d1 175 3 (by decide) (Or.inr (by decide)) (Or.inr (by decide)) (Or.inr (by decide)) (Or.inr (by decide)) (Or.inr (by decide)) (Or.inr (by decide)) (Or.inr (by decide)) (Or.inr (by decide)) (Or.inr (by decide))).trans (a_up_ne (Or.inr (by decide))), fun _ _ _ => rfl⟩
    have D0 : RD u_42 L 2 := ⟨RS.of (fun j => e0 193 j (by omega)) (fun _ => rfl), d2, d3⟩
    have RS := D0.1
    have c40 : u_42 175 4 = 0 := (d1 175 4 (by decide) (Or.inr (by decide)) (Or.inr (by decide)) (Or.inr (by decide)) (Or.inr (by decide)) (Or.inr (by decide)) (Or.inr (by decide)) (Or.inr (by decide)) (Or.inr (by decide)) (Or.inr (by decide))).trans a_up_at
    show AW l G M_Mo_dsaKeys P 45 [(0, vr 175), (1, vi 2)] [] (sD h u_42 L)
    refine aw_aload_n d_Mo_dsaKeys_45 rfl rfl ?_
    refine aw_bipush d_Mo_dsaKeys_46 ⟨by decide, by decide⟩ (by decide) ?_
    refine ax_Vr (st := []) (as := [vi 12]) (b := 175) d_Mo_dsaKeys_48 cs_Mo_dsaKeys_48 (k_175 S) (c_Mo_begin12 S) rfl rfl rfl (fun u_48 q_48 => ?_)
    obtain ⟨I1, L1⟩ := u_48
    obtain ⟨F1, e1, k1⟩ := q_48
    dsimp only at F1 e1 k1
    show AW l G M_Mo_dsaKeys P 51 [(0, vr 175), (1, vi 2)] [] (sD h I1 L1)
    refine aw_aload_n d_Mo_dsaKeys_51 rfl rfl ?_
    refine aw_aload_n d_Mo_dsaKeys_52 rfl rfl ?_
    refine ax_getR (b := 177) d_Mo_dsaKeys_53 fd_Mo_15 (k_175 S) (r_175_1 S) ?_
    refine aw_iconst d_Mo_dsaKeys_56 ⟨by decide, by decide⟩ ?_
    refine ax_aald (b := 178) d_Mo_dsaKeys_57 ⟨by rw [(k_177 S)]; decide, by rw [(k_177 S)]; decide⟩ (by omega) (by rw [n_177 S]; omega) (g_177 S (j := 0) (by decide) (by decide)) ?_
    refine aw_iconst d_Mo_dsaKeys_58 ⟨by decide, by decide⟩ ?_
    refine aw_bipush d_Mo_dsaKeys_59 ⟨by decide, by decide⟩ (by decide) ?_
    refine ax_Vr (st := []) (as := [vr 178, vi 0, vi 32]) (b := 175) d_Mo_dsaKeys_61 cs_Mo_dsaKeys_61 (k_175 S) (c_Mo_put3 S (RS.rf F1) (by omega) (by rw [e1]; exact spStart_lt (by decide) (by decide)) ⟨k_178 S, by decide, by decide⟩ (by rw [n_178 S]; decide)) rfl rfl rfl (fun u_61 q_61 => ?_)
    obtain ⟨I2, L2⟩ := u_61
    obtain ⟨F2, e2, k2⟩ := q_61
    dsimp only at F2 e2 k2
    show AW l G M_Mo_dsaKeys P 64 [(0, vr 175), (1, vi 2)] [] (sD h I2 L2)
    refine aw_aload_n d_Mo_dsaKeys_64 rfl rfl ?_
    refine aw_aload_n d_Mo_dsaKeys_65 rfl rfl ?_
    refine ax_getIe (x := 8) d_Mo_dsaKeys_66 fd_Mo_223 (k_175 S) (Eq.trans ((F1.tr F2).1 175 26 (Or.inr (by decide))) (dr2_26 D0)) ?_
    refine ax_Vr (st := []) (as := [vi 8]) (b := 175) d_Mo_dsaKeys_69 cs_Mo_dsaKeys_69 (k_175 S) (c_Mo_put1 S ((RS.rf F1).rf F2) (by omega) (by rw [e2, e1]; exact spPart_lt (spStart_lt (by decide) (by decide)) _ _)) rfl rfl rfl (fun u_69 q_69 => ?_)
    obtain ⟨I3, L3⟩ := u_69
    obtain ⟨F3, e3, k3⟩ := q_69
    dsimp only at F3 e3 k3
    show AW l G M_Mo_dsaKeys P 72 [(0, vr 175), (1, vi 2)] [] (sD h I3 L3)
    refine aw_aload_n d_Mo_dsaKeys_72 rfl rfl ?_
    refine aw_aload_n d_Mo_dsaKeys_73 rfl rfl ?_
    refine ax_getIe (x := 7) d_Mo_dsaKeys_74 fd_Mo_226 (k_175 S) (Eq.trans (((F1.tr F2).tr F3).1 175 32 (Or.inr (by decide))) (dr2_32 D0)) ?_
    refine ax_Vr (st := []) (as := [vi 7]) (b := 175) d_Mo_dsaKeys_77 cs_Mo_dsaKeys_77 (k_175 S) (c_Mo_put1 S (((RS.rf F1).rf F2).rf F3) (by omega) (by rw [e3, e2, e1]; exact spTake_lt (spPart_lt (spStart_lt (by decide) (by decide)) _ _) _)) rfl rfl rfl (fun u_77 q_77 => ?_)
    obtain ⟨I4, L4⟩ := u_77
    obtain ⟨F4, e4, k4⟩ := q_77
    dsimp only at F4 e4 k4
    show AW l G M_Mo_dsaKeys P 80 [(0, vr 175), (1, vi 2)] [] (sD h I4 L4)
    have eS : spTurn (spR I4 L4) = ksS (fun k => I 178 (0 + k)) 8 7 := by rw [e4, e3, e2, e1, show (fun k => I1 178 (0 + k)) = (fun k => I 178 (0 + k)) from funext (fun z => (F1.1 178 _ (Or.inl (by decide))).trans (e0 178 _ (by omega)))]; rfl
    refine aw_aload_n d_Mo_dsaKeys_80 rfl rfl ?_
    refine aw_aload_n d_Mo_dsaKeys_81 rfl rfl ?_
    refine ax_getR (b := 202) d_Mo_dsaKeys_82 fd_Mo_68 (k_175 S) (r_175_25 S) ?_
    refine aw_iconst d_Mo_dsaKeys_85 ⟨by decide, by decide⟩ ?_
    refine aw_sipush d_Mo_dsaKeys_86 ⟨by decide, by decide⟩ (by decide) ?_
    refine ax_Vr (st := []) (as := [vr 202, vi 0, vi 128]) (b := 175) d_Mo_dsaKeys_89 cs_Mo_dsaKeys_89 (k_175 S) (c_Mo_give S ((((RS.rf F1).rf F2).rf F3).rf F4) (by omega) (by rw [e4, e3, e2, e1]; exact (spTake_lt (spTake_lt (spPart_lt (spStart_lt (by decide) (by decide)) _ _) _) _).1) ⟨k_202 S, by decide, by decide, by decide⟩ (by rw [n_202 S]; decide)) rfl rfl rfl (fun u_89 q_89 => ?_)
    obtain ⟨I5, L5⟩ := u_89
    obtain ⟨F5, f5, e5, k5⟩ := q_89
    dsimp only at F5 f5 e5 k5
    rw [eS] at F5
    have H5 : HR I5 202 0 128 (kgSd 2 (fun k => I 178 (0 + k))) := HR.give F5 (by decide)
    have G5 : FR (fun a => a = 202) u_42 L I5 L5 := ((((F1.tr F2).tr F3).tr F4).fr (p := fun a => a = 202)).tr (FR.give (p := fun a => a = 202) F5 f5 rfl) (fun a x => ⟨x, x⟩)
    have c45 : I5 175 4 = 0 := by rw [F5 175 4 (Or.inr (by decide)), putRow_ne (by decide), (((F1.tr F2).tr F3).tr F4).1 175 4 (Or.inr (by decide))]; exact c40
    show AW l G M_Mo_dsaKeys P 92 [(0, vr 175), (1, vi 2)] [] (sD h I5 L5)
    refine aw_iconst d_Mo_dsaKeys_92 ⟨by decide, by decide⟩ ?_
    refine aw_istore_n (lv' := [(2, vi 1), (0, vr 175), (1, vi 2)]) d_Mo_dsaKeys_93 rfl (by decide) rfl ?_
    refine aw_iconst d_Mo_dsaKeys_94 ⟨by decide, by decide⟩ ?_
    refine aw_istore_n (lv' := [(3, vi 0), (2, vi 1), (0, vr 175), (1, vi 2)]) d_Mo_dsaKeys_95 rfl (by decide) rfl ?_
    have lp_96 : ∀ (n_ : Nat) (i : Int) (fd : Int) (K : Nat → Int → Int) (M : Nat → Int → Int), (0 ≤ i ∧ i ≤ 15) → (FR (fun a => a = 202 ∨ 205 ≤ a ∧ a ≤ 252) u_42 L K M) → (HR K 202 0 128 (kgSd 2 (fun k => I 178 (0 + k)))) → ((fd = 0 ∨ fd = 1) ∧ (fd = 1 ↔ ∀ m, 0 ≤ m → m < i → (sml 2 (fun x => (kgSd 2 (fun k => I 178 (0 + k))) (32 + x)) m).2.1 = 256)) → (∀ m, 0 ≤ m → m < i → (sml 2 (fun x => (kgSd 2 (fun k => I 178 (0 + k))) (32 + x)) m).2.1 = 256 → eqQ (K (205 + m.toNat)) ((kgYs 2 (fun k => I 178 (0 + k))) m)) → (K 175 4 = 0) → ((15 - i).toNat) = n_ → AW l G M_Mo_dsaKeys P 96 [(3, vi i), (2, vi fd), (1, vi 2), (0, vr 175)] [] (sD h K M) := by
      intro n_
      induction n_ using Nat.strongRecOn with
      | _ n_ ih_96 =>
      intro i fd K M hi F hs hfd rw_ c4 hm_96
      refine aw_iload_n d_Mo_dsaKeys_96 rfl rfl ?_
      refine aw_aload_n d_Mo_dsaKeys_97 rfl rfl ?_
      refine ax_getIe (x := 7) d_Mo_dsaKeys_98 fd_Mo_226 (k_175 S) (Eq.trans (F.1 175 32 (by omega) (Or.inr (by decide))) (dr2_32 D0)) ?_
      refine aw_aload_n d_Mo_dsaKeys_101 rfl rfl ?_
      refine ax_getIe (x := 8) d_Mo_dsaKeys_102 fd_Mo_223 (k_175 S) (Eq.trans (F.1 175 26 (by omega) (Or.inr (by decide))) (dr2_26 D0)) ?_
      refine ax_iadd d_Mo_dsaKeys_105 ⟨(by omega), (by omega)⟩ ?_
      refine ax_ti (x := 15) (by decide) ?_
      refine aw_icmp_ge (tgt := 145) d_Mo_dsaKeys_106 (by decide) (fun c_106 => ?_) (fun c_106 => ?_)
      · skip
        rcases hfd.1 with fz | fz
        · subst fz
          refine aw_aload_n d_Mo_dsaKeys_145 rfl rfl ?_
          refine aw_iload_n d_Mo_dsaKeys_146 rfl rfl ?_
          refine aw_iconst d_Mo_dsaKeys_147 ⟨by decide, by decide⟩ ?_
          refine ax_V (st := []) (as := [vi 0, vi 3]) (b := 175) (v := some (vi 0)) (h' := sD h (a_up K 175 4 3) M) d_Mo_dsaKeys_148 cs_Mo_dsaKeys_148 (k_175 S) (c_good0 S rfl) rfl rfl rfl ?_
          show AW l G M_Mo_dsaKeys P 151 [(3, vi i), (2, vi 0), (1, vi 2), (0, vr 175)] [vi 0] (sD h (a_up K 175 4 3) M)
          refine aw_if_ne (tgt := 156) d_Mo_dsaKeys_151 (by decide) (fun c_151 => False.elim (by omega)) (fun c_151 => ?_)
          refine aw_iconst d_Mo_dsaKeys_154 ⟨by decide, by decide⟩ ?_
          exact aw_iret d_Mo_dsaKeys_155 rfl (hP _ _ (rsNo 0 3 (cKeys_3 (by decide) n0 (fun z => by have y := hfd.2.2 (fun m a b => z.2 m a (by show m < 15; omega)); exact absurd y (by decide))) (by decide) a_up_at (fR0.fr (fR0.fr R00 F (r := qN) (by intro a x y; exact ⟨fun z => z, by omega⟩) (by omega)) (FR.c0 (p := fun _ => False)) (by intro a x y; exact ⟨fun z => z, fun z => z⟩) (fun z => z))))
        · subst fz
          refine aw_aload_n d_Mo_dsaKeys_145 rfl rfl ?_
          refine aw_iload_n d_Mo_dsaKeys_146 rfl rfl ?_
          refine aw_iconst d_Mo_dsaKeys_147 ⟨by decide, by decide⟩ ?_
          refine ax_V (st := []) (as := [vi 1, vi 3]) (b := 175) (v := some (vi 1)) (h' := sD h (a_up K 175 4 0) M) d_Mo_dsaKeys_148 cs_Mo_dsaKeys_148 (k_175 S) (c_good1 S rfl) rfl rfl rfl ?_
          show AW l G M_Mo_dsaKeys P 151 [(3, vi i), (2, vi 1), (1, vi 2), (0, vr 175)] [vi 1] (sD h (a_up K 175 4 0) M)
          refine aw_if_ne (tgt := 156) d_Mo_dsaKeys_151 (by decide) (fun c_151 => ?_) (fun c_151 => False.elim (by omega))
          refine aw_sub (lv' := [(0, vr 175)]) (by simp) ?_
          have oks := hfd.2.1 rfl
          exact kB2 S n0 (fR0.fr (fR0.fr R00 F (r := qN) (by intro a x y; exact ⟨fun z => z, by omega⟩) (by omega)) (FR.c0 (p := fun _ => False)) (by intro a x y; exact ⟨fun z => z, fun z => z⟩) (fun z => z)) ((D0.fr F (by omega)).fr (FR.c0 (p := fun _ => False)) ⟨fun z => z, fun z => z, fun z => z⟩) (hs.fr (L := M) (L' := M) (FR.c0 (p := fun _ => False)) (fun z => z) (by decide)) (fun m a b x u v => by rw [a_up_ne (Or.inl (by omega))]; exact rw_ m a (by omega) (oks m a (by omega)) x u v) a_up_at (fun m a b => oks m a (by have b2 : m < 15 := b; omega)) hP
      · skip
        refine aw_aload_n d_Mo_dsaKeys_109 rfl rfl ?_
        refine aw_aload_n d_Mo_dsaKeys_110 rfl rfl ?_
        refine ax_getR (b := 204) d_Mo_dsaKeys_111 fd_Mo_76 (k_175 S) (r_175_28 S) ?_
        refine aw_iload_n d_Mo_dsaKeys_114 rfl rfl ?_
        refine ax_aald (b := 205 + i.toNat) d_Mo_dsaKeys_115 ⟨by rw [(k_204 S)]; decide, by rw [(k_204 S)]; decide⟩ (by omega) (by rw [n_204 S]; omega) (g_204 S (by omega) (by omega)) ?_
        refine aw_aload_n d_Mo_dsaKeys_116 rfl rfl ?_
        refine ax_getR (b := 202) d_Mo_dsaKeys_117 fd_Mo_68 (k_175 S) (r_175_25 S) ?_
        refine aw_bipush d_Mo_dsaKeys_120 ⟨by decide, by decide⟩ (by decide) ?_
        refine aw_iload_n d_Mo_dsaKeys_122 rfl rfl ?_
        refine ax_Vr (st := []) (as := [vr (205 + i.toNat), vr 202, vi 32, vi i]) (b := 175) d_Mo_dsaKeys_123 cs_Mo_dsaKeys_123 (k_175 S) (by have z := c_Mo_sampleSmall (l := l) (G := G) (I := K) (L := M) (f := 205 + i.toNat) (r := 202) (pa := 32) (x := i) (e := 2) S (D0.fr F (by omega)).1 ⟨kr_204 S (by omega), by omega, nr_204 S (by omega)⟩ (by omega) ⟨k_202 S, by decide, by decide⟩ (by rw [n_202 S]; decide) (by omega) (by rw [F.1 175 33 (by omega) (Or.inr (by decide))]; exact dr2_33 D0); rw [sml_HR hs (kgSd_m _ _)] at z; exact z) rfl rfl rfl (fun u_123 q_123 => ?_)
        obtain ⟨I6, L6⟩ := u_123
        obtain ⟨f6, r6⟩ := q_123
        dsimp only at f6 r6 ⊢
        by_cases ok_123 : (sml 2 (fun x => (kgSd 2 (fun k => I 178 (0 + k))) (32 + x)) i).2.1 = 256
        · skip
          rw [if_pos ok_123]
          show AW l G M_Mo_dsaKeys P 126 [(3, vi i), (2, vi fd), (1, vi 2), (0, vr 175)] [vi 1] (sD h I6 L6)
          refine aw_if_eq (tgt := 137) d_Mo_dsaKeys_126 (by decide) (fun c_126 => False.elim (by omega)) (fun c_126 => ?_)
          refine aw_iload_n d_Mo_dsaKeys_129 rfl rfl ?_
          refine aw_if_eq (tgt := 137) d_Mo_dsaKeys_130 (by decide) (fun c_130 => ?_) (fun c_130 => ?_)
          · skip
            refine aw_iconst d_Mo_dsaKeys_137 ⟨by decide, by decide⟩ ?_
            refine aw_istore_n (lv' := [(2, vi 0), (3, vi i), (1, vi 2), (0, vr 175)]) d_Mo_dsaKeys_138 rfl (by decide) rfl ?_
            refine ax_iinc (lv' := [(3, vi (i + 1)), (2, vi 0), (1, vi 2), (0, vr 175)]) d_Mo_dsaKeys_139 rfl (by decide) ⟨(by omega), (by omega)⟩ rfl ?_
            refine aw_goto (tgt := 96) d_Mo_dsaKeys_142 (by decide) ?_
            exact ih_96 _ (by omega) (i + 1) 0 I6 L6 (by omega) (F.tr (FR.smp (p := fun a => a = 202 ∨ 205 ≤ a ∧ a ≤ 252) f6 (by omega)) (fun a x => ⟨x, x⟩)) (hs.fr (FR.smp (p := fun a => a = 205 + i.toNat) f6 rfl) (by omega) (by decide)) (⟨Or.inl rfl, fun z => absurd z (by decide), fun z => by first | exact absurd (z i hi.1 (by omega)) ok_123 | (have := hfd.2.2 (fun m a b => z m a (by omega)); omega)⟩) (fun m a b y => by by_cases z : m = i; exact (by rw [z] at y ⊢; exact fun x u v => r6 x u (by rw [y]; exact v)); exact (fun x u v => by rw [f6.1 _ x (Or.inl (by omega)) (by omega)]; exact rw_ m a (by omega) y x u v)) (by rw [f6.1 175 4 (Or.inr (by decide)) (by omega)]; exact c4) rfl
          · skip
            refine aw_iconst d_Mo_dsaKeys_133 ⟨by decide, by decide⟩ ?_
            refine aw_goto (tgt := 138) d_Mo_dsaKeys_134 (by decide) ?_
            refine aw_istore_n (lv' := [(2, vi 1), (3, vi i), (1, vi 2), (0, vr 175)]) d_Mo_dsaKeys_138 rfl (by decide) rfl ?_
            refine ax_iinc (lv' := [(3, vi (i + 1)), (2, vi 1), (1, vi 2), (0, vr 175)]) d_Mo_dsaKeys_139 rfl (by decide) ⟨(by omega), (by omega)⟩ rfl ?_
            refine aw_goto (tgt := 96) d_Mo_dsaKeys_142 (by decide) ?_
            exact ih_96 _ (by omega) (i + 1) 1 I6 L6 (by omega) (F.tr (FR.smp (p := fun a => a = 202 ∨ 205 ≤ a ∧ a ≤ 252) f6 (by omega)) (fun a x => ⟨x, x⟩)) (hs.fr (FR.smp (p := fun a => a = 205 + i.toNat) f6 rfl) (by omega) (by decide)) (⟨Or.inr rfl, fun _ m a b => by by_cases z : m = i; exact (by rw [z]; exact ok_123); exact hfd.2.1 (by omega) m a (by omega), fun _ => rfl⟩) (fun m a b y => by by_cases z : m = i; exact (by rw [z] at y ⊢; exact fun x u v => r6 x u (by rw [y]; exact v)); exact (fun x u v => by rw [f6.1 _ x (Or.inl (by omega)) (by omega)]; exact rw_ m a (by omega) y x u v)) (by rw [f6.1 175 4 (Or.inr (by decide)) (by omega)]; exact c4) rfl
        · skip
          rw [if_neg ok_123]
          show AW l G M_Mo_dsaKeys P 126 [(3, vi i), (2, vi fd), (1, vi 2), (0, vr 175)] [vi 0] (sD h I6 L6)
          refine aw_if_eq (tgt := 137) d_Mo_dsaKeys_126 (by decide) (fun c_126 => ?_) (fun c_126 => False.elim (by omega))
          refine aw_iconst d_Mo_dsaKeys_137 ⟨by decide, by decide⟩ ?_
          refine aw_istore_n (lv' := [(2, vi 0), (3, vi i), (1, vi 2), (0, vr 175)]) d_Mo_dsaKeys_138 rfl (by decide) rfl ?_
          refine ax_iinc (lv' := [(3, vi (i + 1)), (2, vi 0), (1, vi 2), (0, vr 175)]) d_Mo_dsaKeys_139 rfl (by decide) ⟨(by omega), (by omega)⟩ rfl ?_
          refine aw_goto (tgt := 96) d_Mo_dsaKeys_142 (by decide) ?_
          exact ih_96 _ (by omega) (i + 1) 0 I6 L6 (by omega) (F.tr (FR.smp (p := fun a => a = 202 ∨ 205 ≤ a ∧ a ≤ 252) f6 (by omega)) (fun a x => ⟨x, x⟩)) (hs.fr (FR.smp (p := fun a => a = 205 + i.toNat) f6 rfl) (by omega) (by decide)) (⟨Or.inl rfl, fun z => absurd z (by decide), fun z => by first | exact absurd (z i hi.1 (by omega)) ok_123 | (have := hfd.2.2 (fun m a b => z m a (by omega)); omega)⟩) (fun m a b y => by by_cases z : m = i; exact (by rw [z] at y ⊢; exact fun x u v => r6 x u (by rw [y]; exact v)); exact (fun x u v => by rw [f6.1 _ x (Or.inl (by omega)) (by omega)]; exact rw_ m a (by omega) y x u v)) (by rw [f6.1 175 4 (Or.inr (by decide)) (by omega)]; exact c4) rfl
    skip
    refine aw_sub (lv' := [(3, vi 0), (2, vi 1), (1, vi 2), (0, vr 175)]) (by simp) ?_
    exact lp_96 _ 0 1 I5 L5 (by omega) (G5.mono (by intro a x; omega)) (H5) (⟨Or.inr rfl, fun _ m a b => by omega, fun _ => rfl⟩) (fun m a b => by omega) (c45) rfl
set_option maxHeartbeats 800000 in
set_option maxRecDepth 100000 in
theorem c_Mo_dsaKeysX {l : Launch} {G : a_G} {h : Hp} {I L : Nat → Int → Int} {s : Int} (S : Shp h) (hs : ¬ (0 ≤ s ∧ s ≤ 2)) : AW l G M_Mo_dsaKeys (RsR h I L (cKeys s (I 186 0) (fun k => I 178 (0 + k))) (fun a => a = 179 ∨ a = 180 ∨ a = 186) (fun v I' _ => v = sSec s ∧ ((∀ j, j ≠ 1 → j ≠ 2 → I' 186 j = I 186 j) ∧ I' 186 1 = 32 + 320 * pK s ∧ I' 186 2 = sSec s) ∧ (HR I' 179 0 (32 + 320 * pK s) (kgPk s (fun k => I 178 (0 + k))) ∧ rng (I 179) (I' 179)) ∧ HR I' 180 0 (sSec s) (kgSk s (fun k => I 178 (0 + k))) ∧ rng (I 180) (I' 180))) 0 (a_ar 0 [vr 175, vi s]) [] (sD h I L) := by
  suffices key : ∀ P : a_R → Hp → Prop, (∀ r_ h2_, RsR h I L (cKeys s (I 186 0) (fun k => I 178 (0 + k))) (fun a => a = 179 ∨ a = 180 ∨ a = 186) (fun v I' _ => v = sSec s ∧ ((∀ j, j ≠ 1 → j ≠ 2 → I' 186 j = I 186 j) ∧ I' 186 1 = 32 + 320 * pK s ∧ I' 186 2 = sSec s) ∧ (HR I' 179 0 (32 + 320 * pK s) (kgPk s (fun k => I 178 (0 + k))) ∧ rng (I 179) (I' 179)) ∧ HR I' 180 0 (sSec s) (kgSk s (fun k => I 178 (0 + k))) ∧ rng (I 180) (I' 180)) r_ h2_ → P r_ h2_) → AW l G M_Mo_dsaKeys P 0 [(0, vr 175), (1, vi s)] [] (sD h I L) from key _ (fun _ _ q => q)
  intro P hP
  refine aw_aload_n d_Mo_dsaKeys_0 rfl rfl ?_
  refine aw_iload_n d_Mo_dsaKeys_1 rfl rfl ?_
  refine aw_iconst d_Mo_dsaKeys_2 ⟨by decide, by decide⟩ ?_
  refine aw_iconst d_Mo_dsaKeys_3 ⟨by decide, by decide⟩ ?_
  refine ax_S (st := [vr 175]) (as := [vi s, vi 0, vi 2]) (v := some (vi 0)) (h' := sD h I L) d_Mo_dsaKeys_4 cs_Mo_dsaKeys_4 (c_in0 hs) rfl rfl rfl ?_
  show AW l G M_Mo_dsaKeys P 7 [(0, vr 175), (1, vi s)] [vi 0, vr 175] (sD h I L)
  refine aw_iconst d_Mo_dsaKeys_7 ⟨by decide, by decide⟩ ?_
  refine ax_V (st := []) (as := [vi 0, vi 1]) (b := 175) (v := some (vi 0)) (h' := sD h (a_up I 175 4 1) L) d_Mo_dsaKeys_8 cs_Mo_dsaKeys_8 (k_175 S) (c_good0 S (rfl)) rfl rfl rfl ?_
  show AW l G M_Mo_dsaKeys P 11 [(0, vr 175), (1, vi s)] [vi 0] (sD h (a_up I 175 4 1) L)
  refine aw_if_eq (tgt := 38) d_Mo_dsaKeys_11 (by decide) (fun c_11 => ?_) (fun c_11 => False.elim (by omega))
  refine aw_iconst d_Mo_dsaKeys_38 ⟨by decide, by decide⟩ ?_
  exact aw_iret d_Mo_dsaKeys_39 rfl (hP _ _ (rsNo 0 1 (cKeys_1 (by omega)) (by decide) a_up_at (fR0.fr fR0.rfl' (FR.c0 (p := fun _ => False)) (by intro a x y; exact ⟨fun z => z, fun z => z⟩) (fun z => z))))
theorem c_Mo_dsaKeys {l : Launch} {G : a_G} {h : Hp} {I L : Nat → Int → Int} {s : Int} (S : Shp h) (RS : RSt I L) : AW l G M_Mo_dsaKeys (RsR h I L (cKeys s (I 186 0) (fun k => I 178 (0 + k))) (fun a => a = 179 ∨ a = 180 ∨ a = 186) (fun v I' _ => v = sSec s ∧ ((∀ j, j ≠ 1 → j ≠ 2 → I' 186 j = I 186 j) ∧ I' 186 1 = 32 + 320 * pK s ∧ I' 186 2 = sSec s) ∧ (HR I' 179 0 (32 + 320 * pK s) (kgPk s (fun k => I 178 (0 + k))) ∧ rng (I 179) (I' 179)) ∧ HR I' 180 0 (sSec s) (kgSk s (fun k => I 178 (0 + k))) ∧ rng (I 180) (I' 180))) 0 (a_ar 0 [vr 175, vi s]) [] (sD h I L) := by
  by_cases hs : 0 ≤ s ∧ s ≤ 2
  · rcases (by omega : s = 0 ∨ s = 1 ∨ s = 2) with e | e | e
    · subst e; exact c_Mo_dsaKeys0 S RS
    · subst e; exact c_Mo_dsaKeys1 S RS
    · subst e; exact c_Mo_dsaKeys2 S RS
  · exact c_Mo_dsaKeysX S hs
