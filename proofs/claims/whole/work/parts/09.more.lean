/-! rows of the picture: handlers, Object's constructor, constructors of nest mates, places of arrays of references, arrays of arrays, System.arraycopy -/
section AM
variable {l : Launch} {G : a_G} {M M' : a_M} {P P' : a_R → Hp → Prop} {pc : Nat} {lv lv' : List (Nat × AV)} {st : List AV} {h : Hp}
/-- the handler (a, b, tgt, i) takes the exception of kind e: the rows of the table ahead of it name classes that e is none of -/
theorem at_catch {x e tgt i : Nat} {pre rest : List (Nat × Nat × Nat × Nat)} {a b : Nat} (hx : hK h x = 40 + e) (hhs : a_hs M = pre ++ (a, b, tgt, i) :: rest) (hcov : a ≤ pc ∧ pc < b) (hi : i ≠ 0) (hw : Cond.classLink (a_ow M) i (a_en e) ∈ lw_tbl) (hcast : Cond.castable (a_en e) (a_en e) ∈ lw_tbl) (hpre : ∀ q ∈ pre, q.2.2.2 ≠ 0 ∧ ∃ e2, Cond.classLink (a_ow M) q.2.2.2 (a_en e2) ∈ lw_tbl ∧ Cond.not (.castable (a_en e) (a_en e2)) ∈ flatC (Jvm.Cond.and given_1 narrow_1))
    (k : AW l G M P tgt lv [vr x] h) : AT l G M P pc lv x h := by
  intro p e' s m args below meth c n0 u0 H locs ls rst C S T hT X
  have hWd := C.2.2.2.2.2.1
  obtain ⟨cell, c1, c2, c3⟩ := (S.rep.2.2.2 x).2.2 (by omega)
  rw [show hK h x - 40 = e by omega] at c3
  have htab := C.2.2.2.2.2.2.2.2.1.trans hhs
  obtain ⟨p1, p2, ep, e1, e2⟩ := List.map_eq_append_iff.mp htab
  obtain ⟨y, p3, rfl, ey, e3⟩ := List.map_eq_cons_iff.mp e2
  have ey1 : y.startPc = a := congrArg (fun q => q.1) ey
  have ey2 : y.endPc = b := congrArg (fun q => q.2.1) ey
  have ey3 : y.handlerPc = tgt := congrArg (fun q => q.2.2.1) ey
  have ey4 : y.catchType = i := congrArg (fun q => q.2.2.2) ey
  have hpl : e'.platform.magicAccessors = ({} : Platform).magicAccessors := by rw [X.admits.platform]
  obtain ⟨z1, z2, z3, z4, z5⟩ := Cond.castable_spec (hWd.at2 hcast rfl args)
  cases z3.symm.trans c3
  cases z4.symm.trans c3
  obtain ⟨hend, hk0⟩ := X.catches_of_link C.2.2.2.2.1 (x := y) (by rw [ey4]; exact hi) (by rw [ey4]; exact hWd.at hw rfl args) c3 z5
  obtain ⟨vm', X', hstep⟩ := X.caughtThrough (a_rh G x) (g := F0 m pc ls rst) rfl (by rw [hT]; exact c1) c2 hk0 p1 y p3 ep (fun z hz => by
      have hz' : (z.startPc, z.endPc, z.handlerPc, z.catchType) ∈ pre := by rw [← e1]; exact List.mem_map.mpr ⟨z, hz, rfl⟩
      obtain ⟨g1, e2', g2, g3⟩ := hpre _ hz'
      refine RowPassed.of_words hpl C.2.2.2.2.1 g1 (hWd.at g2 rfl args) c3 ?_
      obtain ⟨s0, a0, w1, w2, w3, w4, -⟩ := hWd
      have h3 := flat_of_before _ w4 _ g3
      have h4 := Cond.holds_not_iff.mp h3
      refine Cond.holds_not_iff.mpr ?_
      rw [← h4]
      show (Cond.castable (a_en e) (a_en e2')).value args s none s [] = (Cond.castable (a_en e) (a_en e2')).value a0 s0 none s0 []
      simp only [Cond.value, w2.alike.findClass, w2.alike.assignable]) (by simp only [covers, ey1, ey2]; simp [hcov.1, hcov.2]) hend
  obtain ⟨h1, h2, h3, h4, h5, h6⟩ := S
  obtain ⟨t, a1, b1⟩ := k p e' s m args below meth c n0 u0 H locs ls C ⟨h1, h2, h3, h4, (fun v hv => by rw [List.mem_singleton.mp hv]; exact trivial), h6⟩ (T.setVm vm') hT X'
  refine ⟨t, ?_, b1⟩
  rw [X.pushThrowing_eq]
  refine hstep t ?_
  rw [ey3]
  exact a1
theorem aw_objInit {i a : Nat} (hd : decode (a_cc M) pc = .ok (.invokespecial i, 3)) (hw : Cond.methodLink (a_ow M) i Lib.objectInit ∈ lw_tbl) (hfr : 1 ≤ a_fr M) (hlo : a_aw st + 12 ≤ a_lo M) (k : AW l G M P (pc + 3) lv st h) : AW l G M P pc lv (vr a :: st) h := by
  intro p e s m args below meth c n0 u0 H locs ls C S
  have hs := S.ok
  have hWd := C.2.2.2.2.2.1
  have w1 : Cond.instanceMethod Lib.objectInit ∈ lw_tbl := List.mem_append_right _ (List.mem_of_getElem? (i := 28) (by decide +kernel))
  have w2 : Cond.code Lib.objectInit ⟨#[0xb1]⟩ 1 none ∈ lw_tbl := List.mem_append_right _ (List.mem_of_getElem? (i := 29) (by decide +kernel))
  refine W.objInit C.1 C.2.1 C.2.2.2.2.1 (hWd.at hw rfl args) (hWd.at w1 rfl args) (hWd.at w2 rfl args) rfl (S.2.2.1.1.trans C.2.2.2.1.symm) rfl hd hfr (by
    show 2 * 0 + ((st.map (a_cv (a_rh G))).map fun v => v.category).sum + 12 ≤ a_lo M
    rw [a_wt]; omega) (k p e s m args below meth c n0 u0 H locs ls C (S.st (okt hs)))
theorem aw_callIN {i b : Nat} {as : List AV} {st0 : List AV} {host : String} (hd : decode (a_cc M) pc = .ok (.invokespecial i, 3)) (hrm : a_Rm M M' (a_aw (vr b :: as)) (a_aw st)) (hnm : (a_y M').name = "<init>") (hrt : a_rt M' = none) (hcd : Cond.code (a_y M') (a_cc M') (a_ml M') (a_rt M') ∈ lw_tbl) (hw : Cond.methodLinkNest (a_ow M) i (a_y M') host ∈ lw_tbl) (hw2 : Cond.instanceMethod (a_y M') ∈ lw_tbl) (hn : (parseMethodDescriptor (a_y M').desc).map (fun d => d.parameters.length) = some as.length) (hst : st0 = as.reverse ++ (vr b :: st)) (k' : AW l G M' P' 0 (a_ar 0 (vr b :: as)) [] h) (kr : ∀ v h', P' (.inl v) h' → AW l G M P (pc + 3) lv (v.toList ++ st) h') (kt : ∀ x h', P' (.inr x) h' → AT l G M P pc lv x h') : AW l G M P pc lv st0 h := by
  subst hst
  intro p e s m args below meth c n0 u0 H locs ls C S T hT X
  have hs := S.ok
  obtain ⟨hM, haw, hfr, hlo⟩ := hrm
  have hWd := C.2.2.2.2.2.1
  have hpl : e.platform.magicAccessors = ({} : Platform).magicAccessors := by rw [X.admits.platform]
  have hX' : At T m c below := X.here
  rw [hrt] at hcd
  have hlk : (Cond.methodLinkNest (a_ow M) i (a_y M') host).before args s = true := by
    obtain ⟨s0, a0, w1, w2, -⟩ := hWd
    exact va_Nw.use rfl ((va_Nw.of rfl (w1 _ hw)).warmM w2)
  obtain ⟨mk, methM, cM, kP, vm₁, hnamed, hmethM, hcodeM, -, hlocalsM, -, hkP, -, hW₁, hstep⟩ := Steps.initColdArgsNest (tb := p.tables) (e := e) (below := below) (s := s) (U := T) hX' C.1 X.warmed hpl C.2.2.2.2.1 (t := a_y M') hnm hM.2.2.1 hlk (hWd.at hw2 rfl args) (hWd.at hcd rfl args) (f := F0 m pc ls ((as.reverse ++ (vr b :: st)).map (a_cv (a_rh G)))) rfl (a := a_rh G b) (argsL := as.map (a_cv (a_rh G))) (rest := st.map (a_cv (a_rh G)))
    (fun sig hsig => by rw [hsig] at hn; rw [List.length_map]; exact (Option.some.inj hn).symm) (by show (as.reverse ++ (vr b :: st)).map _ = _; rw [List.map_append, List.map_reverse]; rfl) (by rw [C.2.1]; exact hd)
  have X₁ := X.noted hW₁
  have has : ∀ v ∈ vr b :: as, okv v := fun v hv => by
    rcases List.mem_cons.mp hv with rfl | hv
    · exact trivial
    · exact hs v (List.mem_append_left _ (List.mem_reverse.mpr hv))
  have hst : ∀ v ∈ st, okv v := fun v hv => hs v (List.mem_append_right _ (List.mem_cons_of_mem _ hv))
  have hb := a_come (st := st) (pc := pc) C S.1 X₁ (by show a_Rep s G h T.heap; rw [hT]; exact S.rep) k' hM has haw S.2.2.1.1 hd hfr hlo hnamed []
  obtain ⟨t, a1, b1⟩ := a_goOn C S hst hb kr kt
  refine ⟨t, hstep t (fun acts => ?_), b1⟩
  rw [doInvoke_state]
  exact a1
theorem aw_aast {a b ci : Nat} {j : Int} (hd : decode (a_cc M) pc = .ok (.aastore, 1)) (hk : hK h a = 8 ∧ ci = 1 ∨ hK h a = 9 ∧ ci = 2) (hkb : hK h b = 20 + ci) (ho : 12 ≤ a) (h0 : 0 ≤ j) (h1 : j < hN h a) (k : AW l G M P (pc + 1) lv st (wR h a j (some b))) : AW l G M P pc lv (vr b :: vi j :: vr a :: st) h := by
  intro p e s m args below meth c n0 u0 H locs ls C S
  have hs := S.ok
  have hj : okI j := ok2 hs
  have hci : ci < 11 := by rcases hk with hk | hk <;> omega
  obtain ⟨cell, e1, e2, e3, e4, e5, e6⟩ := (S.rep.2.2.2 a).1 (by rcases hk with hk | hk <;> omega) (by rcases hk with hk | hk <;> omega)
  have e41 := e4.1
  obtain ⟨-, cb, f1, f2, f3, -⟩ := (S.rep.2.2.2 b).2.1 (by omega) (by omega)
  rw [show hK h b - 20 = ci by omega] at f2
  have hcls := (C.2.2.2.2.2.2.1.1 ci _ (a_cls_at hci)).2
  have hRA := e6 (by rcases hk with hk | hk <;> omega)
  have hft : a_ft (hK h a) = .object (a_cn ci) := by rcases hk with ⟨hk, rfl⟩ | ⟨hk, rfl⟩ <;> rw [hk] <;> rfl
  rw [hft] at hRA
  obtain ⟨kA, comp, k1, k2, k3, -⟩ := hRA
  have hcomp : comp = (a_D G).1 ci := Option.some.inj (k3.symm.trans hcls.1)
  subst hcomp
  obtain ⟨kC, hkC, -⟩ := id hcls.2
  refine W.aast C.1 C.2.1 e1 e2.1 e3 k1 k2 rfl hkC ⟨a_n0 hj h0, by rw [a_cl hj h0]; omega⟩ f1 (fun q hq => by rw [f3] at hq; cases hq) (by rw [f2]; exact hkC) (by rw [f2]; exact va_assign hcls) rfl rfl hd fun H' q1 q2 q3 => ?_
  rw [a_cl hj h0] at q1
  have het : a_et (hK h a) = 2 := by rcases hk with ⟨hk, -⟩ | ⟨hk, -⟩ <;> rw [hk] <;> rfl
  have R' : a_Rep s G (wR h a j (some b)) H' := by
    refine S.rep.store (h' := wR h a j (some b)) C.2.2.2.2.2.2.2.2.2.2 rfl rfl rfl (okH_wR S.rep.2.1) ho q2 q3 (fun t k i hn => a_svR t k i (Or.inl hn)) (fun _ _ => ?_) (fun q => by rcases hk with hk | hk <;> omega) (fun q => by rcases hk with hk | hk <;> omega)
    refine a_crA.store (h := h) rfl rfl h0 h1 e2 e3 e4 e5 e6 q1 ?_ (fun i hi => a_svR _ _ i (Or.inr hi))
    rw [het]
    show _ = va_rf ((a_up (hR h) a j (some b) a j).map (a_rh G))
    rw [a_up_at]
    rfl
  refine k p e s m args below meth c n0 u0 H' _ ls C (S.put (h' := wR h a j (some b)) rfl rfl R' (okt (okt (okt hs))) ?_)
  show a_B G ≤ a_rh G a
  rw [a_rh_own ho]
  omega
/-- the first n places of b are those of a -/
def wC (h : Hp) (a b : Nat) (n : Int) : Hp := (h.1, h.2.1, fun k i => if k = b ∧ 0 ≤ i ∧ i < n then hI h a i else hI h k i, h.2.2.2)
theorem aw_copy {i a b q : Nat} {n : Int} (hd : decode (a_cc M) pc = .ok (.invokestatic i, 3)) (hw : Cond.methodLink (a_ow M) i arraycopyName ∈ lw_tbl) (hq : q = 1 ∨ q = 2) (hka : hK h a = q) (hkb : hK h b = q) (ho : 12 ≤ b) (h0 : 0 ≤ n) (h1 : n ≤ hN h a) (h2 : n ≤ hN h b) (hfr : 1 ≤ a_fr M) (hlo : a_aw st + 18 ≤ a_lo M) (k : AW l G M P (pc + 3) lv st (wC h a b n)) : AW l G M P pc lv (vi n :: vi 0 :: vr b :: vi 0 :: vr a :: st) h := by
  intro p e s m args below meth c n0 u0 H locs ls C S T hT X
  have hs := S.ok
  have hn : okI n := ok1 hs
  have hWd := C.2.2.2.2.2.1
  have w1 : Cond.native arraycopyName ∈ lw_tbl := List.mem_append_right _ (List.mem_of_getElem? (i := 500) (by decide +kernel))
  have w2 : Cond.static arraycopyName ∈ lw_tbl := List.mem_append_right _ (List.mem_of_getElem? (i := 499) (by decide +kernel))
  have w3 : Cond.initialized "java/lang/System" ∈ lw_tbl := List.mem_append_right _ (List.mem_of_getElem? (i := 18) (by decide +kernel))
  obtain ⟨ca, e1, e2, e3, e4, e5, e6⟩ := (S.rep.2.2.2 a).1 (by omega) (by omega)
  obtain ⟨cb, f1, f2, f3, f4, f5, f6⟩ := (S.rep.2.2.2 b).1 (by omega) (by omega)
  have e41 := e4.1
  have f41 := f4.1
  rw [hka] at e2 e5
  rw [hkb] at f2 f5
  obtain ⟨ea, ka, hka1, coma, hka2⟩ := e2
  obtain ⟨eb, kb, hkb1, comb, hkb2⟩ := f2
  have het : a_et q = 0 := by rcases hq with rfl | rfl <;> rfl
  rw [het] at e5 f5
  have hcn : (Int32.ofInt n).toNatClampNeg = n.toNat := a_cl hn h0
  have hc0 : (Int32.ofInt 0).toNatClampNeg = 0 := rfl
  have hr := S.rep.2.1
  have hget : ∀ j : Nat, j < n.toNat → ca.slots.getD (0 + j) .null = .int (Int32.ofInt (hI h a j)) := fun j hj => by
    rw [Array.getD_eq_getD_getElem?, Nat.zero_add, e5 j (by omega)]
    rfl
  obtain ⟨vm', X', step⟩ := X.arraycopy C.1 C.2.2.2.2.1 (hWd.at hw rfl args) (hWd.at w1 rfl args) (hWd.at w2 rfl args) (hWd.at w3 rfl args) (src := a_rh G a) (dst := a_rh G b) (cs := ca) (cd := cb) (srcPos := Int32.ofInt 0) (destPos := Int32.ofInt 0) (n := Int32.ofInt n) (by rw [hT]; exact e1) (by rw [hT]; exact f1) ea eb e3 f3 hka1 hkb1 hka2 hkb2 (by rcases hq with rfl | rfl <;> rfl) (by decide) (by decide) (a_n0 hn h0) (by rw [a_i32 hn]; show ¬ (0 : Int) + n > _; omega) (by rw [a_i32 hn]; show ¬ (0 : Int) + n > _; omega)
    (fun vm₁ _ j hj => by
      rw [hcn] at hj
      rw [hc0, hget j hj]
      refine ⟨?_, trivial⟩
      rcases hq with rfl | rfl
      · rfl
      · have hb := hr.2.2.2.1 a j hka
        show fits .byte (.int (Int32.ofInt (hI h a j))) = true
        have e9 : Int32.ofInt (hI h a j) = (Int32.ofInt (hI h a j)).toInt8.toInt32 := by
          rw [a_i2b (hr.1 a j)]
          unfold a_w8
          congr 1
          omega
        rw [e9]
        exact pk_fb _)
    (g := F0 m pc ls (.int (Int32.ofInt n) :: .int (Int32.ofInt 0) :: .ref (a_rh G b) :: .int (Int32.ofInt 0) :: .ref (a_rh G a) :: st.map (a_cv (a_rh G)))) rfl (S.2.2.1.1.trans C.2.2.2.1.symm) (rest := st.map (a_cv (a_rh G))) rfl (by rw [C.2.1]; exact hd) hfr (by
      show 2 * 0 + ((st.map (a_cv (a_rh G))).map fun v => v.category).sum + (7 + 11) ≤ a_lo M
      rw [a_wt]; omega)
  have e0 : copied ca cb (Int32.ofInt 0) (Int32.ofInt 0) (Int32.ofInt n) = cb.storeRun 0 (ca.stretch 0 n.toNat) := by
    show cb.storeRun (Int32.ofInt 0).toNatClampNeg (ca.stretch (Int32.ofInt 0).toNatClampNeg (Int32.ofInt n).toNatClampNeg) = _
    rw [hcn, hc0]
  rw [e0] at X' step
  rw [hcn, hc0] at X'
  have hbl : a_rh G b < H.size := (Array.getElem?_eq_some_iff.mp f1).1
  have hlen : (ca.stretch 0 n.toNat).length = n.toNat := by simp [Cell.stretch]
  obtain ⟨r1, r2, r3, r4⟩ := Cell.storeRun_facts cb 0 (ca.stretch 0 n.toNat)
  have hgt := fun j => Cell.storeRun_get cb 0 (ca.stretch 0 n.toNat) j (by rw [hlen]; omega)
  have hst : ∀ j : Nat, j < n.toNat → (ca.stretch 0 n.toNat)[j]? = some (.int (Int32.ofInt (hI h a j))) := fun j hj => by
    unfold Cell.stretch
    rw [List.getElem?_map, List.getElem?_range hj]
    show some (ca.slots.getD (0 + j) .null) = _
    rw [hget j hj]
  have hheap : ((T.setVm vm').setCell (a_rh G b) (cb.storeRun 0 (ca.stretch 0 n.toNat))).heap = H.setIfInBounds (a_rh G b) (cb.storeRun 0 (ca.stretch 0 n.toNat)) := by rw [← hT]; rfl
  have q1 : (H.setIfInBounds (a_rh G b) (cb.storeRun 0 (ca.stretch 0 n.toNat)))[a_rh G b]? = some (cb.storeRun 0 (ca.stretch 0 n.toNat)) := by simp [Array.getElem?_setIfInBounds, hbl]
  have q3 : ∀ x, x ≠ a_rh G b → (H.setIfInBounds (a_rh G b) (cb.storeRun 0 (ca.stretch 0 n.toNat)))[x]? = H[x]? := fun x hx => by simp [Array.getElem?_setIfInBounds, Ne.symm hx]
  have okC : okH (wC h a b n) := by
    obtain ⟨o1, o2, o3, o4, o5, o6, o7⟩ := hr
    refine ⟨fun x y => ?_, o2, o3, fun x y hx => ?_, fun x y hx => ?_, o6, o7⟩
    · show okI (if x = b ∧ 0 ≤ y ∧ y < n then hI h a y else hI h x y)
      split
      · exact o1 a y
      · exact o1 x y
    · show -128 ≤ (if x = b ∧ 0 ≤ y ∧ y < n then hI h a y else hI h x y) ∧ (if x = b ∧ 0 ≤ y ∧ y < n then hI h a y else hI h x y) < 128
      have hx' : hK h x = 2 := hx
      split
      · rename_i z
        exact o4 a y (by rw [hka, ← hkb, ← z.1]; exact hx')
      · exact o4 x y hx'
    · have hx' : hK h x = 3 := hx
      show 0 ≤ (if x = b ∧ 0 ≤ y ∧ y < n then hI h a y else hI h x y) ∧ (if x = b ∧ 0 ≤ y ∧ y < n then hI h a y else hI h x y) < 2
      split
      · rename_i z
        exfalso
        rw [z.1, hkb] at hx'
        omega
      · exact o5 x y hx'
  have R' : a_Rep s G (wC h a b n) (H.setIfInBounds (a_rh G b) (cb.storeRun 0 (ca.stretch 0 n.toNat))) := by
    refine S.rep.store (h' := wC h a b n) C.2.2.2.2.2.2.2.2.2.2 rfl rfl rfl okC ho (by simp) q3 (fun t x y hn => ?_) (fun _ _ => ?_) (fun z => by omega) (fun z => by omega)
    · unfold a_sv
      rw [show hI (wC h a b n) x y = hI h x y from if_neg (fun z => hn z.1), show hL (wC h a b n) = hL h from rfl, show hR (wC h a b n) = hR h from rfl]
    · refine ⟨_, q1, ?_, by rw [r2]; exact f3, by rw [r3]; exact f4, fun j hj => ?_, fun z => by have z' : 8 ≤ hK h b := z; omega⟩
      · show s.isArrayOf _ (a_ft (hK h b))
        rw [hkb]
        exact ⟨fun x hx => eb x (by rw [← r2]; exact hx), kb, by rw [r1]; exact hkb1, comb, hkb2⟩
      · have hj : (j : Int) < hN h b := hj
        show _ = some (a_sv (a_rh G) (wC h a b n) (a_et (hK h b)) b j)
        rw [hkb, het, hgt j, hlen, a_sv0]
        by_cases z : j < n.toNat
        · rw [if_pos (by omega), Nat.sub_zero, hst j z, show hI (wC h a b n) b j = hI h a j from if_pos ⟨rfl, by omega, by omega⟩]
        · rw [if_neg (by omega), f5 j hj, show hI (wC h a b n) b j = hI h b j from if_neg (fun y => by omega)]
          rfl
  obtain ⟨h1', h2', h3', h4', h5', h6'⟩ := S
  obtain ⟨t, a1, b1⟩ := k p e s m args below meth c n0 u0 _ _ ls C ⟨h1', R', h3', h4', okt (okt (okt (okt (okt hs)))), fun x hx => by
      rcases List.mem_append.mp hx with hx | hx
      · exact h6' x hx
      · obtain ⟨z, -, rfl⟩ := List.mem_map.mp hx
        show a_B G ≤ a_rh G b
        rw [a_rh_own ho]
        omega⟩ _ hheap X'
  exact ⟨t, step t a1, b1⟩
/-- an array of N arrays of K places each -/
def wM (h : Hp) (q r N K : Nat) : Hp :=
  (fun x => if x = hX h then q else if hX h < x ∧ x ≤ hX h + N then r else hK h x,
   fun x => if x = hX h then (N : Int) else if hX h < x ∧ x ≤ hX h + N then (K : Int) else hN h x,
   fun x j => if hX h ≤ x ∧ x ≤ hX h + N then 0 else hI h x j,
   fun x j => if hX h ≤ x ∧ x ≤ hX h + N then 0 else hL h x j,
   fun x j => if x = hX h then (if 0 ≤ j ∧ j < (N : Int) then some (hX h + 1 + j.toNat) else none) else if hX h < x ∧ x ≤ hX h + N then none else hR h x j,
   hX h + 1 + N, hU h + N + N * K)
theorem okH_wM {h : Hp} {q r N K : Nat} (ok : okH h) (hN1 : N < 2147483648) (hK1 : K < 2147483648) : okH (wM h q r N K) := by
  obtain ⟨o1, o2, o3, o4, o5, o6, o7⟩ := ok
  refine ⟨fun x j => ?_, fun x j => ?_, fun x => ?_, fun x j hx => ?_, fun x j hx => ?_, fun x hx => ?_, ?_⟩
  · show okI (if hX h ≤ x ∧ x ≤ hX h + N then 0 else hI h x j)
    split
    · exact a_zI
    · exact o1 x j
  · show okL (if hX h ≤ x ∧ x ≤ hX h + N then 0 else hL h x j)
    split
    · exact a_zL
    · exact o2 x j
  · show 0 ≤ (if x = hX h then (N : Int) else if hX h < x ∧ x ≤ hX h + N then (K : Int) else hN h x) ∧ (if x = hX h then (N : Int) else if hX h < x ∧ x ≤ hX h + N then (K : Int) else hN h x) < 2147483648
    split
    · omega
    · split
      · omega
      · exact o3 x
  · show -128 ≤ (if hX h ≤ x ∧ x ≤ hX h + N then 0 else hI h x j) ∧ (if hX h ≤ x ∧ x ≤ hX h + N then 0 else hI h x j) < 128
    have hx' : (if x = hX h then q else if hX h < x ∧ x ≤ hX h + N then r else hK h x) = 2 := hx
    split
    · omega
    · rename_i z
      rw [if_neg (by omega), if_neg (by omega)] at hx'
      exact o4 x j hx'
  · show 0 ≤ (if hX h ≤ x ∧ x ≤ hX h + N then 0 else hI h x j) ∧ (if hX h ≤ x ∧ x ≤ hX h + N then 0 else hI h x j) < 2
    have hx' : (if x = hX h then q else if hX h < x ∧ x ≤ hX h + N then r else hK h x) = 3 := hx
    split
    · omega
    · rename_i z
      rw [if_neg (by omega), if_neg (by omega)] at hx'
      exact o5 x j hx'
  · show x < hX h + 1 + N
    have hx' : (if x = hX h then q else if hX h < x ∧ x ≤ hX h + N then r else hK h x) ≠ 0 := hx
    by_cases z : x ≤ hX h + N
    · omega
    · rw [if_neg (by omega), if_neg (by omega)] at hx'
      have := o6 x hx'
      omega
  · show 12 ≤ hX h + 1 + N
    omega
theorem a_outer (c : ClassId) (N h0 : Nat) : ∀ i : Nat, i ≤ N → ∀ j : Nat, j < N → (Jvm.Free.Multi.outerC c N h0 i).slots[j]? = some (if j < i then .ref (h0 + 1 + j) else .null)
  | 0, _, j, hj => by
    show (Array.replicate N Value.null)[j]? = _
    simp [hj]
  | i + 1, hi, j, hj => by
    have ih := a_outer c N h0 i (by omega) j hj
    have hsz := (Jvm.Free.Multi.outerC_facts c N h0 i).2.2
    show ((Jvm.Free.Multi.outerC c N h0 i).setSlot i (.ref (h0 + 1 + i))).slots[j]? = _
    by_cases z : i = j
    · subst z
      rw [a_setSlot_at _ _ (by omega), if_pos (by omega)]
    · rw [a_setSlot_ne _ _ z, ih]
      by_cases y : j < i
      · rw [if_pos y, if_pos (by omega)]
      · rw [if_neg y, if_neg (by omega)]
theorem aw_mna {i q r : Nat} {n w : Int} (hd : decode (a_cc M) pc = .ok (.multianewarray i 2, 4)) (hqr : q = 5 ∧ r = 1 ∨ q = 6 ∧ r = 2 ∨ q = 7 ∧ r = 3) (hw1 : Cond.classLink (a_ow M) i ("[" ++ (FieldType.array (a_ft r)).toString) ∈ lw_tbl) (hw2 : Cond.arrayOver (.array (a_ft r)) ∈ lw_tbl) (hw3 : Cond.arrayClass (a_ft r) ∈ lw_tbl) (hn0 : 0 ≤ n) (hn1 : n ≤ 100000) (hw0 : 0 ≤ w) (hw9 : w ≤ 100000) (hx : hX h + 1 + n.toNat ≤ a_NX) (hu : hU h + n.toNat + n.toNat * w.toNat ≤ a_US) (k : AW l G M P (pc + 4) lv (vr (hX h) :: st) (wM h q r n.toNat w.toNat)) : AW l G M P pc lv (vi w :: vi n :: st) h := by
  intro p e s m args below meth c n0 u0 H locs ls C S T hT X
  have hs := S.ok
  have hWd := C.2.2.2.2.2.1
  obtain ⟨l1, l2, l3, l4⟩ := S.1
  obtain ⟨s0, a0, w1, w2, -⟩ := id hWd
  have hcn := a_cl (ok2 hs) hn0
  have hcw := a_cl (ok1 hs) hw0
  have hft : a_ft q = .array (a_ft r) := by rcases hqr with ⟨rfl, rfl⟩ | ⟨rfl, rfl⟩ | ⟨rfl, rfl⟩ <;> rfl
  have hcb : componentBytes (a_ft r) ≤ 8 := by rcases hqr with ⟨-, rfl⟩ | ⟨-, rfl⟩ | ⟨-, rfl⟩ <;> decide
  have hcb2 : w.toNat * componentBytes (a_ft r) ≤ w.toNat * 8 := Nat.mul_le_mul_left _ hcb
  obtain ⟨vm₁, cA, comp, -, fA, fC, hO, hI', X', step⟩ := X.multianewarray2F C.1 C.2.2.2.2.1 (hWd.at hw1 rfl args) (over_moved w2.alike (w1 _ hw2)) (hWd.at hw3 rfl args) (g := F0 m pc ls ((vi w :: vi n :: st).map (a_cv (a_rh G)))) rfl (by rw [C.2.1]; exact hd) rfl (a_n0 (ok2 hs) hn0) (a_n0 (ok1 hs) hw0) (by rw [hcn]; omega) (by rw [hcw]; omega) (by rw [hcw]; omega) (by rcases hqr with ⟨-, rfl⟩ | ⟨-, rfl⟩ | ⟨-, rfl⟩ <;> decide) (by rcases hqr with ⟨-, rfl⟩ | ⟨-, rfl⟩ | ⟨-, rfl⟩ <;> decide) (by rw [hcn]; show hX h - n0 + _ ≤ a_NX - n0; omega) (by rw [hcn, hcw]; show hU h - u0 + _ ≤ a_US - u0; omega)
  rw [hcn, hcw] at X' step
  have hTh : (T.setVm vm₁).heap = H := hT
  obtain ⟨f1, f2, -, -⟩ := Jvm.Free.Multi.fill_facts (T.setVm vm₁) cA comp n.toNat w.toNat (defaultValue (a_ft r)) n.toNat
  have f3 := fun (x : Nat) (hx : x < H.size) => Jvm.Free.Multi.fill_old (T.setVm vm₁) cA comp n.toNat w.toNat (defaultValue (a_ft r)) (a := x) (by rw [hTh]; exact hx) n.toNat
  have f4 := fun (j : Nat) (hj : j < n.toNat) => Jvm.Free.Multi.fill_inner (T.setVm vm₁) cA comp n.toNat w.toNat (defaultValue (a_ft r)) n.toNat j hj
  have hThs : T.heap.size = H.size := by rw [hT]
  rw [hThs] at step
  generalize Jvm.Free.Multi.fill (T.setVm vm₁) cA comp n.toNat w.toNat (defaultValue (a_ft r)) n.toNat = F at X' step f1 f2 f3 f4
  rw [hTh] at f1 f2
  have hnx := a_rh_nx S.rep
  have h12 := S.rep.2.1.2.2.2.2.2.2
  have hrow : ∀ x, hX h < x → x ≤ hX h + n.toNat → a_rh G x = H.size + 1 + (x - hX h - 1) := fun x y1 y2 => by
    rw [← hnx, a_rh_own h12, a_rh_own (by omega)]
    omega
  have R' : a_Rep s G (wM h q r n.toNat w.toNat) F.heap := by
    have R0 := S.rep
    obtain ⟨r1, r2, r3, r4⟩ := S.rep
    refine ⟨by rw [f1, r1]; show _ = a_B G + (hX h + 1 + n.toNat - 12); omega, okH_wM r2 (by omega) (by omega), fun x hx => ?_, fun x => ?_⟩
    · rw [f3 x (by omega), hTh]
      exact r3 x hx
    · by_cases z1 : x = hX h
      · subst z1
        have eK : hK (wM h q r n.toNat w.toNat) (hX h) = q := if_pos rfl
        rw [eK]
        refine ⟨fun _ _ => ?_, fun _ => by rcases hqr with hq | hq | hq <;> omega, fun _ => by rcases hqr with hq | hq | hq <;> omega⟩
        have hoc := Jvm.Free.Multi.outerC_facts cA n.toNat H.size n.toNat
        refine ⟨_, by rw [hnx]; exact f2, by rw [eK, hft]; exact (hO _ _ _).1, (hO _ _ _).2, ?_, fun j hj => ?_, fun z => by rw [eK] at z; rcases hqr with hq | hq | hq <;> omega⟩
        · have eN : hN (wM h q r n.toNat w.toNat) (hX h) = (n.toNat : Int) := if_pos rfl
          rw [hoc.2.2, eN, Int32.ofInt_eq_ofNat]
          exact ⟨Int.le_refl _, rfl⟩
        · have eN : hN (wM h q r n.toNat w.toNat) (hX h) = (n.toNat : Int) := if_pos rfl
          rw [eN] at hj
          have hj : j < n.toNat := Int.ofNat_lt.mp hj
          rw [a_outer _ _ _ _ (Nat.le_refl _) j hj, if_pos hj, eK]
          have het : a_et q = 2 := by rcases hqr with ⟨rfl, -⟩ | ⟨rfl, -⟩ | ⟨rfl, -⟩ <;> rfl
          rw [het, a_sv2]
          have eR : hR (wM h q r n.toNat w.toNat) (hX h) j = some (hX h + 1 + j) := by
            show (if hX h = hX h then (if 0 ≤ (j : Int) ∧ (j : Int) < (n.toNat : Int) then some (hX h + 1 + (j : Int).toNat) else none) else _) = _
            rw [if_pos rfl, if_pos (by omega)]
            rfl
          rw [eR]
          show some (Value.ref (H.size + 1 + j)) = some (Value.ref (a_rh G (hX h + 1 + j)))
          rw [hrow (hX h + 1 + j) (by omega) (by omega), show hX h + 1 + j - hX h - 1 = j by omega]
      · by_cases z2 : hX h < x ∧ x ≤ hX h + n.toNat
        · have eK : hK (wM h q r n.toNat w.toNat) x = r := (if_neg z1).trans (if_pos z2)
          rw [eK]
          refine ⟨fun _ _ => ?_, fun _ => by rcases hqr with hq | hq | hq <;> omega, fun _ => by rcases hqr with hq | hq | hq <;> omega⟩
          have hc := f4 (x - hX h - 1) (by omega)
          rw [hTh] at hc
          refine ⟨_, by rw [hrow x z2.1 z2.2]; exact hc, by rw [eK]; exact (hI' _ _).1, (hI' _ _).2, ?_, fun j hj => ?_, fun z => by rw [eK] at z; rcases hqr with hq | hq | hq <;> omega⟩
          · have eN : hN (wM h q r n.toNat w.toNat) x = (w.toNat : Int) := (if_neg z1).trans (if_pos z2)
            show hN (wM h q r n.toNat w.toNat) x ≤ ((Array.replicate w.toNat (defaultValue (a_ft r))).size : Int) ∧ (Array.replicate w.toNat (defaultValue (a_ft r))).size.toInt32 = Int32.ofInt (hN (wM h q r n.toNat w.toNat) x)
            rw [eN, Array.size_replicate, Int32.ofInt_eq_ofNat]
            exact ⟨Int.le_refl _, rfl⟩
          · have hj' : j < w.toNat := by
              have eN : hN (wM h q r n.toNat w.toNat) x = (w.toNat : Int) := (if_neg z1).trans (if_pos z2)
              rw [eN] at hj
              exact Int.ofNat_lt.mp hj
            show (Array.replicate w.toNat (defaultValue (a_ft r)))[j]? = _
            rw [eK]
            have het : a_et r = 0 := by rcases hqr with ⟨-, rfl⟩ | ⟨-, rfl⟩ | ⟨-, rfl⟩ <;> rfl
            rw [het, a_sv0]
            have eI : hI (wM h q r n.toNat w.toNat) x j = 0 := if_pos ⟨by omega, z2.2⟩
            rw [eI]
            simp only [Array.getElem?_replicate, hj', if_true]
            rcases hqr with ⟨-, rfl⟩ | ⟨-, rfl⟩ | ⟨-, rfl⟩ <;> rfl
        · have eK : hK (wM h q r n.toNat w.toNat) x = hK h x := (if_neg z1).trans (if_neg z2)
          have eN : hN (wM h q r n.toNat w.toNat) x = hN h x := (if_neg z1).trans (if_neg z2)
          have eS : ∀ t j, a_sv (a_rh G) (wM h q r n.toNat w.toNat) t x j = a_sv (a_rh G) h t x j := fun t j => by
            unfold a_sv
            rw [show hI (wM h q r n.toNat w.toNat) x j = hI h x j from if_neg (by omega), show hL (wM h q r n.toNat w.toNat) x j = hL h x j from if_neg (by omega), show hR (wM h q r n.toNat w.toNat) x j = hR h x j from (if_neg z1).trans (if_neg z2)]
          have key : hK h x ≠ 0 → F.heap[a_rh G x]? = H[a_rh G x]? := fun y => by
            rw [f3 _ (a_rh_lt C.2.2.2.2.2.2.2.2.2.2 R0 (r2.2.2.2.2.2.1 x y)), hTh]
          rw [eK]
          refine ⟨fun p1 p2 => ?_, fun p1 p2 => ?_, fun p1 => ?_⟩
          · obtain ⟨cell, e1, e2, e3, e4, e5, e6⟩ := (r4 x).1 p1 p2
            exact ⟨cell, by rw [key (by omega)]; exact e1, by rw [eK]; exact e2, e3, by rw [eN]; exact e4, fun j hj => by rw [eK, eS]; rw [eN] at hj; exact e5 j hj, by rw [eK]; exact e6⟩
          · obtain ⟨hc, cell, e1, e2, e3, e4⟩ := (r4 x).2.1 p1 p2
            exact ⟨by rw [eK]; exact hc, cell, by rw [key (by omega)]; exact e1, by rw [eK]; exact e2, e3, by rw [eK]; exact fun f hf => by rw [eS]; exact e4 f hf⟩
          · obtain ⟨cell, e1, e2, e3⟩ := (r4 x).2.2 p1
            exact ⟨cell, by rw [key (by omega)]; exact e1, e2, by rw [eK]; exact e3⟩
  have S' := S.made (h' := wM h q r n.toNat w.toNat) (by show hX h ≤ hX h + 1 + n.toNat; omega) hx (by show hU h ≤ hU h + n.toNat + n.toNat * w.toNat; omega) hu R' (okc (v := vr (hX h)) trivial (okt (okt hs)))
  have kk := k p e s m args below meth c n0 u0 F.heap locs ls C S'
  have e1 : hX (wM h q r n.toNat w.toNat) - n0 = hX h - n0 + 1 + n.toNat := by show hX h + 1 + n.toNat - n0 = _; omega
  have e2 : hU (wM h q r n.toNat w.toNat) - u0 = hU h - u0 + n.toNat + n.toNat * w.toNat := by show hU h + n.toNat + n.toNat * w.toNat - u0 = _; omega
  rw [e1, e2] at kk
  obtain ⟨t, a1, b1⟩ := kk F rfl X'
  refine ⟨t, step t ?_, b1⟩
  rw [← hnx]
  exact a1
end AM
