/-! rows of the picture: new cells, static arrays, a method's end -/
theorem a_wN_ne {ρ : Nat → Nat} {h : Hp} {q n : Nat} (t k : Nat) (j : Int) (hk : k ≠ hX h) : a_sv ρ (wN h q n) t k j = a_sv ρ h t k j := by
  unfold a_sv
  rw [show hI (wN h q n) k j = hI h k j from if_neg hk, show hL (wN h q n) k j = hL h k j from if_neg hk, show hR (wN h q n) k j = hR h k j from if_neg hk]
theorem a_wN_at {ρ : Nat → Nat} {h : Hp} {q n : Nat} (t : Nat) (j : Int) : a_sv ρ (wN h q n) t (hX h) j = if t = 0 then .int 0 else if t = 1 then .long 0 else .null := by
  unfold a_sv
  rw [show hI (wN h q n) (hX h) j = 0 from if_pos rfl, show hL (wN h q n) (hX h) j = 0 from if_pos rfl, show hR (wN h q n) (hX h) j = none from if_pos rfl]
  rfl
theorem a_wN_K {h : Hp} {q n : Nat} : hK (wN h q n) (hX h) = q := if_pos rfl
theorem a_wN_Kne {h : Hp} {q n k : Nat} (hk : k ≠ hX h) : hK (wN h q n) k = hK h k := if_neg hk
theorem a_wN_N {h : Hp} {q n : Nat} : hN (wN h q n) (hX h) = n := if_pos rfl
theorem a_wN_Nne {h : Hp} {q n k : Nat} (hk : k ≠ hX h) : hN (wN h q n) k = hN h k := if_neg hk
theorem okH_wN {h : Hp} {q n : Nat} (ok : okH h) (hn : n < 2147483648) : okH (wN h q n) := by
  obtain ⟨o1, o2, o3, o4, o5, o6, o7⟩ := ok
  refine ⟨fun k j => ?_, fun k j => ?_, fun k => ?_, fun k j hk => ?_, fun k j hk => ?_, fun k hk => ?_, ?_⟩
  · show okI (if k = hX h then 0 else hI h k j)
    split
    · exact a_zI
    · exact o1 k j
  · show okL (if k = hX h then 0 else hL h k j)
    split
    · exact a_zL
    · exact o2 k j
  · show 0 ≤ (if k = hX h then (n : Int) else hN h k) ∧ (if k = hX h then (n : Int) else hN h k) < 2147483648
    split
    · omega
    · exact o3 k
  · show -128 ≤ (if k = hX h then 0 else hI h k j) ∧ (if k = hX h then 0 else hI h k j) < 128
    split
    · omega
    · rename_i e
      rw [a_wN_Kne e] at hk
      exact o4 k j hk
  · show 0 ≤ (if k = hX h then 0 else hI h k j) ∧ (if k = hX h then 0 else hI h k j) < 2
    split
    · omega
    · rename_i e
      rw [a_wN_Kne e] at hk
      exact o5 k j hk
  · show k < hX h + 1
    by_cases e : k = hX h
    · omega
    · rw [a_wN_Kne e] at hk
      have := o6 k hk
      omega
  · show 12 ≤ hX h + 1
    omega
theorem a_rh_lt {G : a_G} (hsa : ∀ k, k < 12 → G.2.1 k < a_B G) {s : State} {h : Hp} {H : Heap} (R : a_Rep s G h H) {k : Nat} (hk : k < hX h) : a_rh G k < H.size := by
  have h12 := R.2.1.2.2.2.2.2.2
  rw [R.1]
  by_cases q : k < 12
  · have := hsa k q
    unfold a_rh
    rw [if_pos q]
    omega
  · rw [a_rh_own (by omega)]
    omega
theorem a_rh_nx {G : a_G} {s : State} {h : Hp} {H : Heap} (R : a_Rep s G h H) : a_rh G (hX h) = H.size := by
  rw [a_rh_own R.2.1.2.2.2.2.2.2, R.1]
/-- a new cell -/
theorem a_Rep.grow {s : State} {G : a_G} {h : Hp} {H H' : Heap} {q n : Nat} (hsa : ∀ k, k < 12 → G.2.1 k < a_B G) (R : a_Rep s G h H) (hsz : H'.size = H.size + 1) (hold : ∀ x, x < H.size → H'[x]? = H[x]?) (hn : n < 2147483648)
    (hA : 0 < q → q < 20 → a_crA s G (wN h q n) H' (hX h)) (hO : 20 ≤ q → q < 40 → a_crO G (wN h q n) H' (hX h)) (hE : 40 ≤ q → a_crE s G (wN h q n) H' (hX h)) : a_Rep s G (wN h q n) H' := by
  have R0 := R
  obtain ⟨r1, r2, r3, r4⟩ := R
  have h12 := r2.2.2.2.2.2.2
  refine ⟨by show H'.size = a_B G + (hX h + 1 - 12); omega, okH_wN r2 hn, fun x hx => ?_, fun k => ?_⟩
  · rw [hold x (by omega)]
    exact r3 x hx
  · by_cases hk : k = hX h
    · subst hk
      rw [a_wN_K]
      exact ⟨hA, hO, hE⟩
    · rw [a_wN_Kne hk]
      have key : hK h k ≠ 0 → H'[a_rh G k]? = H[a_rh G k]? := fun e => hold _ (a_rh_lt hsa R0 (r2.2.2.2.2.2.1 k e))
      refine ⟨fun p1 p2 => ?_, fun p1 p2 => ?_, fun p1 => ?_⟩
      · obtain ⟨cell, e1, e2, e3, e4, e5, e6⟩ := (r4 k).1 p1 p2
        exact ⟨cell, by rw [key (by omega)]; exact e1, by rw [a_wN_Kne hk]; exact e2, e3, by rw [a_wN_Nne hk]; exact e4, fun j hj => by rw [a_wN_Kne hk, a_wN_ne _ _ _ hk]; rw [a_wN_Nne hk] at hj; exact e5 j hj, by rw [a_wN_Kne hk]; exact e6⟩
      · obtain ⟨hc, cell, e1, e2, e3, e4⟩ := (r4 k).2.1 p1 p2
        exact ⟨by rw [a_wN_Kne hk]; exact hc, cell, by rw [key (by omega)]; exact e1, by rw [a_wN_Kne hk]; exact e2, e3, by rw [a_wN_Kne hk]; exact fun f hf => by rw [a_wN_ne _ _ _ hk]; exact e4 f hf⟩
      · obtain ⟨cell, e1, e2, e3⟩ := (r4 k).2.2 p1
        exact ⟨cell, by rw [key (by omega)]; exact e1, e2, by rw [a_wN_Kne hk]; exact e3⟩
theorem a_Rep.moved {s U : State} {G : a_G} {h : Hp} {H : Heap} (hvm : s.vm.Alike U.vm) (R : a_Rep s G h H) : a_Rep U G h H := by
  obtain ⟨r1, r2, r3, r4⟩ := R
  refine ⟨r1, r2, r3, fun k => ⟨fun p1 p2 => ?_, fun p1 p2 => (r4 k).2.1 p1 p2, fun p1 => ?_⟩⟩
  · obtain ⟨cell, e1, e2, e3, e4, e5, e6⟩ := (r4 k).1 p1 p2
    exact ⟨cell, e1, State.isArrayOf_alike hvm e2, e3, e4, e5, fun q => (e6 q).moved hvm⟩
  · obtain ⟨cell, e1, e2, e3⟩ := (r4 k).2.2 p1
    exact ⟨cell, e1, e2, by rw [hvm.findClass]; exact e3⟩
theorem a_fk3 : ∀ c, c < 11 → ∀ f, f < a_F c → a_fk (a_t c f) < 3 := by
  intro c hc
  rcases (show c = 0 ∨ c = 1 ∨ c = 2 ∨ c = 3 ∨ c = 4 ∨ c = 5 ∨ c = 6 ∨ c = 7 ∨ c = 8 ∨ c = 9 ∨ c = 10 by omega) with rfl | rfl | rfl | rfl | rfl | rfl | rfl | rfl | rfl | rfl | rfl <;> decide +kernel
theorem a_St.made {G : a_G} {M : a_M} {s : State} {n0 u0 : Nat} {H H' : Heap} {locs : List Loc} {ls : Array Slot} {lv : List (Nat × AV)} {st st' : List AV} {h h' : Hp} (S : a_St G M s n0 u0 H locs ls lv st h) (hX1 : hX h ≤ hX h') (hX2 : hX h' ≤ a_NX) (hU1 : hU h ≤ hU h') (hU2 : hU h' ≤ a_US) (R' : a_Rep s G h' H') (hs : ∀ v ∈ st', okv v) : a_St G M s n0 u0 H' locs ls lv st' h' := by
  obtain ⟨h1, h2, h3, h4, h5, h6⟩ := S
  exact ⟨⟨by omega, hX2, by omega, hU2⟩, R', h3, h4, hs, h6⟩
section AN
variable {l : Launch} {G : a_G} {M : a_M} {P : a_R → Hp → Prop} {pc : Nat} {lv lv' : List (Nat × AV)} {st : List AV} {h : Hp}
theorem aw_new {i ci : Nat} (hd : decode (a_cc M) pc = .ok (.new i, 3)) (hc : ci < 11) (hw : Cond.classLink (a_ow M) i (a_cn ci) ∈ lw_tbl) (hx : hX h + 1 ≤ a_NX) (hu : hU h + a_F ci ≤ a_US) (k : AW l G M P (pc + 3) lv (vr (hX h) :: st) (wN h (20 + ci) (a_F ci))) : AW l G M P pc lv st h := by
  intro p e s m args below meth c n0 u0 H locs ls C S
  have hs := S.ok
  have hWd := C.2.2.2.2.2.1
  have hKn := C.2.2.2.2.2.2.1.1 ci _ (a_cls_at hc)
  obtain ⟨l1, l2, l3, l4⟩ := S.1
  refine W.newcK (n := a_F ci) C.1 C.2.1 C.2.2.2.2.1 (hWd.at hw rfl args) (hWd.at (a_inst ci hc) rfl args) (hWd.at (a_init ci hc) rfl args) rfl hd (by show hX h - n0 + 1 ≤ a_NX - n0; omega) (by show hU h - u0 + a_F ci ≤ a_US - u0; omega) hKn.2.1 (a_rh_nx S.rep).symm fun H1 kC hkC e1 z1 o1 => ?_
  have hob := u_born (a_t ci) (a_hts hWd ci hc args) (fun _ q => q) hKn hkC e1 (a_ty ci hc)
  have hsz : H.size = a_rh G (hX h) := (a_rh_nx S.rep).symm
  have R' : a_Rep s G (wN h (20 + ci) (a_F ci)) H1 := by
    refine S.rep.grow C.2.2.2.2.2.2.2.2.2.2 (by rw [z1, hsz]) (fun x hx => o1 x (by rw [← hsz]; exact hx)) (by unfold a_US at hu; omega) (fun _ q => by omega) (fun _ _ => ?_) (fun q => by omega)
    obtain ⟨cell, g1, g2, g3, g4⟩ := hob
    refine ⟨by rw [a_wN_K]; omega, cell, g1, ?_, g3, fun f hf => ?_⟩
    · rw [a_wN_K, show 20 + ci - 20 = ci by omega]
      exact g2
    · rw [a_wN_K, show 20 + ci - 20 = ci by omega] at hf ⊢
      rw [g4 f hf, a_wN_at]
      have h3 := a_fk3 ci hc f hf
      show some (defaultValue (a_t ci f)) = some (if a_fk (a_t ci f) = 0 then Value.int 0 else if a_fk (a_t ci f) = 1 then Value.long 0 else Value.null)
      revert h3
      cases a_t ci f <;> intro h3 <;> first | rfl | (exact absurd h3 (by decide))
  have kk := k p e s m args below meth c n0 u0 H1 locs ls C (S.made (h' := wN h (20 + ci) (a_F ci)) (Nat.le_succ _) hx (Nat.le_add_right _ _) hu R' (okc trivial hs))
  refine W.cs (by show hX h - n0 + 1 = hX h + 1 - n0; omega) (by show hU h - u0 + a_F ci = hU h + a_F ci - u0; omega) ?_
  exact kk
theorem aw_newa {atype : ArrayType} {q : Nat} {n : Int} (hd : decode (a_cc M) pc = .ok (.newarray atype, 2)) (hq : 1 ≤ q ∧ q ≤ 4) (ht : newarray.typeOf atype = a_ft q) (hw : Cond.arrayClass (a_ft q) ∈ lw_tbl) (h0 : 0 ≤ n) (hn : n ≤ 10000000) (hx : hX h + 1 ≤ a_NX) (hu : hU h + n.toNat ≤ a_US) (k : AW l G M P (pc + 2) lv (vr (hX h) :: st) (wN h q n.toNat)) : AW l G M P pc lv (vi n :: st) h := by
  intro p e s m args below meth c n0 u0 H locs ls C S
  have hs := S.ok
  have hWd := C.2.2.2.2.2.1
  obtain ⟨l1, l2, l3, l4⟩ := S.1
  have hb : componentBytes (newarray.typeOf atype) ≤ 8 := by rw [ht]; rcases (show q = 1 ∨ q = 2 ∨ q = 3 ∨ q = 4 by omega) with e | e | e | e <;> rw [e] <;> decide
  have hb2 : n.toNat * componentBytes (newarray.typeOf atype) ≤ n.toNat * 8 := Nat.mul_le_mul_left _ hb
  refine W.newaK (N := n.toNat) C.1 C.2.1 (by rw [ht]; exact hWd.at hw rfl args) rfl hd rfl (a_n0 (ok1 hs) h0) (a_cl (ok1 hs) h0) (by omega) (by show hX h - n0 + 1 ≤ a_NX - n0; omega) (by show hU h - u0 + n.toNat ≤ a_US - u0; omega) (a_rh_nx S.rep).symm fun H1 cA e1 z1 o1 hAr => ?_
  have hsz : H.size = a_rh G (hX h) := (a_rh_nx S.rep).symm
  rw [ht] at e1 hAr
  have R' : a_Rep s G (wN h q n.toNat) H1 := by
    refine S.rep.grow C.2.2.2.2.2.2.2.2.2.2 (by rw [z1, hsz]) (fun x hx => o1 x (by rw [← hsz]; exact hx)) (by omega) (fun _ _ => ?_) (fun _ _ => by omega) (fun _ => by omega)
    refine ⟨_, e1, by rw [a_wN_K]; exact hAr _ _, (fun z => by cases z), by rw [arrV_size, a_wN_N, Int32.ofInt_eq_ofNat]; exact ⟨Int.le_refl _, rfl⟩, fun j hj => ?_, fun z => by rw [a_wN_K] at z; omega⟩
    rw [a_wN_N] at hj
    rw [arrV_read _ _ (Int.ofNat_lt.mp hj), a_wN_K, a_wN_at]
    rcases (show q = 1 ∨ q = 2 ∨ q = 3 ∨ q = 4 by omega) with e | e | e | e <;> rw [e] <;> rfl
  have kk := k p e s m args below meth c n0 u0 H1 locs ls C (S.made (h' := wN h q n.toNat) (Nat.le_succ _) hx (Nat.le_add_right _ _) hu R' (okc trivial (okt hs)))
  refine W.cs (by show hX h - n0 + 1 = hX h + 1 - n0; omega) (by show hU h - u0 + n.toNat = hU h + n.toNat - u0; omega) ?_
  exact kk
theorem aw_anew {i q : Nat} {n : Int} (hd : decode (a_cc M) pc = .ok (.anewarray i, 3)) (C0 : String) (hq : q = 8 ∨ q = 9) (ht : a_ft q = .object C0) (hw : Cond.classLink (a_ow M) i C0 ∈ lw_tbl) (hw2 : Cond.arrayOver (.object C0) ∈ lw_tbl) (h0 : 0 ≤ n) (hn : n ≤ 10000000) (hx : hX h + 1 ≤ a_NX) (hu : hU h + n.toNat ≤ a_US) (k : AW l G M P (pc + 3) lv (vr (hX h) :: st) (wN h q n.toNat)) : AW l G M P pc lv (vi n :: st) h := by
  intro p e s m args below meth c n0 u0 H locs ls C S
  have hs := S.ok
  have hWd := C.2.2.2.2.2.1
  obtain ⟨l1, l2, l3, l4⟩ := S.1
  have hcl := a_cl (ok1 hs) h0
  obtain ⟨s0, a0, w1, w2, -⟩ := id hWd
  refine W.anew C.1 C.2.1 C.2.2.2.2.1 (hWd.at hw rfl args) ((va_AO.of (w1 _ hw2)).moved w2.alike).use rfl hd rfl (a_n0 (ok1 hs) h0) (by rw [hcl]; omega) (by show hX h - n0 + 1 ≤ a_NX - n0; omega) (by show hU h - u0 + _ ≤ a_US - u0; rw [hcl]; omega) fun cA kA comp g1 g2 g3 g4 => ?_
  rw [hcl, arrV_new]
  have hsz : a_rh G (hX h) = H.size := a_rh_nx S.rep
  have R' : a_Rep s G (wN h q n.toNat) (H.push (arrV cA n.toNat (fun _ => .null))) := by
    refine S.rep.grow C.2.2.2.2.2.2.2.2.2.2 (by simp) (fun x hx => by rw [Array.getElem?_push, if_neg (Nat.ne_of_lt hx)]) (by omega) (fun _ _ => ?_) (fun _ _ => by omega) (fun _ => by omega)
    refine ⟨arrV cA n.toNat (fun _ => .null), by rw [hsz]; simp, ?_, (fun z => by cases z), by rw [arrV_size, a_wN_N, Int32.ofInt_eq_ofNat]; exact ⟨Int.le_refl _, rfl⟩, fun j hj => ?_, fun z => ?_⟩
    · rw [a_wN_K, ht]
      exact ⟨fun k z => (by cases z), kA, g2, comp, g3⟩
    · rw [a_wN_N] at hj
      rw [arrV_read _ _ (Int.ofNat_lt.mp hj), a_wN_K, a_wN_at]
      rcases hq with e | e <;> rw [e] <;> rfl
    · rw [a_wN_K, ht]
      exact ⟨kA, comp, g2, g3, g4, g1⟩
  have kk := k p e s m args below meth c n0 u0 _ locs ls C (S.made (h' := wN h q n.toNat) (Nat.le_succ _) hx (Nat.le_add_right _ _) hu R' (okc trivial (okt hs)))
  refine W.cs (by show hX h - n0 + 1 = hX h + 1 - n0; omega) (by show hU h - u0 + n.toNat = hU h + n.toNat - u0; omega) ?_
  rw [← hsz]
  exact kk
theorem aw_gets {i j : Nat} (hd : decode (a_cc M) pc = .ok (.getstatic i, 3)) (hj : j < 11) (hw : Cond.fieldLink (a_ow M) i (a_sn j).1 (a_sn j).2.1 (a_sn j).2.2 ∈ lw_tbl) (k : AW l G M P (pc + 3) lv (vr j :: st) h) : AW l G M P pc lv st h := by
  intro p e s m args below meth c n0 u0 H locs ls C S
  have hs := S.ok
  have hWd := C.2.2.2.2.2.1
  obtain ⟨s0, a0, -, w2, w3, -, w5, w6⟩ := id hWd
  obtain ⟨cf, kf, fi, f, a, cell, z1, z2, z3, z4, z5, z6, z7, z8⟩ := (w6 j hj).moved w2.alike
  have ha : a < a_B G := by
    rw [w3] at z5
    have := (Array.getElem?_eq_some_iff.mp z5).1
    omega
  refine W.gets (v := .ref (a_rh G j)) C.1 C.2.1 C.2.2.2.2.1 (hWd.at hw rfl args) z1 z2 z3 z4 (cell₁ := cell) (by rw [S.rep.2.2.1 a ha, ← w3]; exact z5) (fun q => by rw [q] at z6; cases z6) ?_ rfl hd (k p e s m args below meth c n0 u0 H locs ls C (S.st (okc trivial hs)))
  rw [z7]
  unfold a_rh
  rw [if_pos (by omega)]
theorem a_W_mono {p : Program} {l : Launch} {e : Env} {R : Room} {s : State} {m : MethodId} {args : Array Value} {below : List Frame} {meth : Method} {c : Code} {H : Heap} {locs : List Loc} {cells slots : Nat} {Q Q' : State → Prop} {g : JFrame} (hQ : ∀ t, Q t → Q' t) (w : W p l e R s m args below meth c H locs cells slots Q g) : W p l e R s m args below meth c H locs cells slots Q' g := by
  intro T hT X
  obtain ⟨t, a, b⟩ := w T hT X
  exact ⟨t, a, hQ t b⟩
theorem a_end {s : State} {below : List Frame} {n0 u0 : Nat} {H : Heap} {locs : List Loc} {ls : Array Slot} {args : Array Value} (S : a_St G M s n0 u0 H locs ls lv st h) {r : a_R} (hP : P r h) (hr : okr r) : ∀ t, MQ below (fun _ s' o t => o = a_ro (a_rh G) r ∧ t.heap = H) args s (hX h - n0) (hU h - u0) (fun q => a_B G ≤ q) t → a_Q G below s n0 u0 P t := by
  rintro t ⟨o, h1, h2, ⟨rfl, h3⟩, L, ⟨-, h5, h6⟩, h7⟩
  obtain ⟨l1, l2, l3, l4⟩ := S.1
  exact ⟨r, h, L, hP, hr, h1, h2, by rw [h3]; exact S.rep.moved h5.alike, l1, l2, l3, l4, h5, h6, h7⟩
theorem aw_iret {x : Int} (hd : decode (a_cc M) pc = .ok (.ireturn, 1)) (hr : a_rt M = some .int) (hP : P (.inl (some (vi x))) h) : AW l G M P pc lv [vi x] h := by
  intro p e s m args below meth c n0 u0 H locs ls C S
  have hlocks := C.2.2.2.2.2.2.2.1
  exact a_W_mono (a_end (args := args) S hP (ok1 S.ok)) (W.iret C.1 C.2.1 (C.2.2.1.trans hr) (fun t ht _ => ⟨rfl, ht⟩) S.2.2.2.2.2 hd hlocks)
theorem aw_zret {x : Int} (hd : decode (a_cc M) pc = .ok (.ireturn, 1)) (hr : a_rt M = some .boolean) (hx : 0 ≤ x ∧ x < 2) (hP : P (.inl (some (vi x))) h) : AW l G M P pc lv [vi x] h := by
  intro p e s m args below meth c n0 u0 H locs ls C S
  have hlocks := C.2.2.2.2.2.2.2.1
  exact a_W_mono (a_end (args := args) S hP (ok1 S.ok)) (W.zret C.1 C.2.1 (C.2.2.1.trans hr) (by rcases (show x = 0 ∨ x = 1 by omega) with q | q <;> rw [q] <;> rfl) (fun t ht _ => ⟨rfl, ht⟩) S.2.2.2.2.2 hd hlocks)
theorem aw_lret {x : Int} (hd : decode (a_cc M) pc = .ok (.lreturn, 1)) (hr : a_rt M = some .long) (hP : P (.inl (some (vl x))) h) : AW l G M P pc lv [vl x] h := by
  intro p e s m args below meth c n0 u0 H locs ls C S
  have hlocks := C.2.2.2.2.2.2.2.1
  exact a_W_mono (a_end (args := args) S hP (ok1 S.ok)) (W.lret C.1 C.2.1 (C.2.2.1.trans hr) (fun t ht _ => ⟨rfl, ht⟩) S.2.2.2.2.2 hd hlocks)
theorem aw_vret (hd : decode (a_cc M) pc = .ok (.return_, 1)) (hr : a_rt M = none) (hP : P (.inl none) h) : AW l G M P pc lv [] h := by
  intro p e s m args below meth c n0 u0 H locs ls C S
  have hlocks := C.2.2.2.2.2.2.2.1
  exact a_W_mono (a_end (args := args) S hP trivial) (W.vret C.1 C.2.1 (C.2.2.1.trans hr) (fun t ht _ => ⟨rfl, ht⟩) S.2.2.2.2.2 hd hlocks)
end AN
