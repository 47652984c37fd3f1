/-! rows of the picture: calls -/
theorem a_weaken {tb : Tables} {e : Env} {mid below : List Frame} {a b : State} (h : Steps tb e (mid ++ below) a b) : Steps tb e below a b := by
  obtain ⟨n, hn, w⟩ := h
  exact ⟨n, hn, fun k hk => (w k hk).weaken⟩
def a_ar : Nat → List AV → List (Nat × AV)
  | _, [] => []
  | i, v :: vs => (i, v) :: a_ar (if a_c2 v = true then i + 2 else i + 1) vs
theorem a_ar_lm (ρ : Nat → Nat) : ∀ (vs : List AV) (i : Nat), lv_args i (vs.map (a_cv ρ)) = a_lm ρ (a_ar i vs)
  | [], _ => rfl
  | v :: vs, i => by
    have hc : ((a_cv ρ v).category = 2) = (a_c2 v = true) := by
      rw [← a_c2_ok ρ v]
      simp
    show (i, a_cv ρ v) :: lv_args (if (a_cv ρ v).category = 2 then i + 2 else i + 1) (vs.map (a_cv ρ)) = (i, a_cv ρ v) :: a_lm ρ (a_ar (if a_c2 v = true then i + 2 else i + 1) vs)
    simp only [hc]
    rw [a_ar_lm ρ vs]
theorem a_ar_ok : ∀ (vs : List AV) (i : Nat), (∀ v ∈ vs, okv v) → ∀ q ∈ a_ar i vs, okv q.2
  | [], _, _, q, h => by cases h
  | v :: vs, i, hv, q, h => by
    rcases List.mem_cons.mp h with rfl | h
    · exact hv v List.mem_cons_self
    · exact a_ar_ok vs _ (fun u hu => hv u (List.mem_cons_of_mem _ hu)) q h
/-- how many words the arguments take -/
def a_aw : List AV → Nat
  | [] => 0
  | v :: vs => (if a_c2 v = true then 2 else 1) + a_aw vs
theorem a_aw_len (ρ : Nat → Nat) : ∀ vs : List AV, (lg_sl (vs.map (a_cv ρ))).length = a_aw vs
  | [] => rfl
  | v :: vs => by
    have hc : ((a_cv ρ v).category = 2) = (a_c2 v = true) := by
      rw [← a_c2_ok ρ v]
      simp
    have ih := a_aw_len ρ vs
    unfold lg_sl at ih ⊢
    rw [List.map_cons, List.flatMap_cons, List.length_append, ih]
    show (if (a_cv ρ v).category = 2 then [Slot.val (a_cv ρ v), Slot.second] else [Slot.val (a_cv ρ v)]).length + a_aw vs = (if a_c2 v = true then 2 else 1) + a_aw vs
    simp only [hc]
    split <;> rfl
theorem a_wt (ρ : Nat → Nat) : ∀ st : List AV, ((st.map (a_cv ρ)).map fun v => v.category).sum = a_aw st
  | [] => rfl
  | v :: vs => by
    have ih := a_wt ρ vs
    rw [List.map_cons, List.map_cons, List.sum_cons, ih]
    show (a_cv ρ v).category + a_aw vs = (if a_c2 v = true then 2 else 1) + a_aw vs
    congr 1
    rcases v with x | x | r
    · rfl
    · rfl
    · cases r <;> rfl
/-- a method of ours stands in the tables as M says -/
def a_Ok (M : a_M) : Prop := a_ow M = (a_y M).cls ∧ plainFor (a_y M) = true ∧ ((a_y M).cls ≠ "java/lang/invoke/MethodHandle" ∧ (a_y M).cls ≠ "java/lang/invoke/VarHandle") ∧ (Cond.initialized (a_y M).cls ∈ lw_tbl) ∧ ((a_hs M = [] ∧ Cond.code (a_y M) (a_cc M) (a_ml M) (a_rt M) ∈ lw_tbl) ∨ Cond.codeWith (a_y M) (a_cc M) (a_ml M) (a_rt M) (a_hs M) ∈ lw_tbl)
theorem a_Ok.at {M : a_M} (hM : a_Ok M) {G : a_G} {s : State} (hw : a_Wd G s) : ∃ mk meth c, s.methodNamed? (a_y M) = some mk ∧ s.vm.method? mk = some meth ∧ meth.code = some c ∧ c.code = a_cc M ∧ c.maxLocals = a_ml M ∧ c.exceptionTable.toList.map (fun h => (h.startPc, h.endPc, h.handlerPc, h.catchType)) = a_hs M ∧ meth.sig.returnType = a_rt M ∧ meth.locks = false ∧ parseMethodDescriptor (a_y M).desc = some meth.sig ∧ meth.name = (a_y M).name ∧ s.vm.findClass (a_ow M) = some mk.cls ∧ s.plainMethod mk ∧ ∃ k, s.vm.classes[mk.cls]? = some k ∧ k.init = .initialized := by
  obtain ⟨h1, h2, h3, h4, h5⟩ := hM
  have key : ∃ mk meth c, s.methodNamed? (a_y M) = some mk ∧ s.vm.method? mk = some meth ∧ meth.code = some c ∧ c.code = a_cc M ∧ c.maxLocals = a_ml M ∧ c.exceptionTable.toList.map (fun h => (h.startPc, h.endPc, h.handlerPc, h.catchType)) = a_hs M ∧ meth.sig.returnType = a_rt M ∧ meth.locks = false ∧ parseMethodDescriptor (a_y M).desc = some meth.sig := by
    rcases h5 with ⟨q, h5⟩ | h5
    · have hc := hw.at h5 rfl #[]
      obtain ⟨mk, hn⟩ := Cond.code_named hc
      obtain ⟨meth, c, g1, g2, g3, g4, g5, g6, g7, g8⟩ := Cond.code_spec hn hc
      refine ⟨mk, meth, c, hn, g1, g2, g3, g4, ?_, g5, g6, g8⟩
      rw [q]
      have : c.exceptionTable.toList = [] := by
        have := g7
        simpa using this
      rw [this]
      rfl
    · exact Cond.codeWith_spec (hw.at h5 rfl #[])
  obtain ⟨mk, meth, c, g1, g2, g3, g4, g5, g6, g7, g8, g9⟩ := key
  obtain ⟨k, hk, -⟩ := className_of_methodNamed g1
  exact ⟨mk, meth, c, g1, g2, g3, g4, g5, g6, g7, g8, g9, (name_of_methodNamed g1 g2).1, by rw [h1]; exact findClass_of_methodNamed g1, State.plainMethod.of_named h2 g1 g2, k, hk, Cond.initialized_spec (findClass_of_methodNamed g1) hk (hw.at h4 rfl #[])⟩
section AC
variable {l : Launch} {G : a_G} {M M' : a_M} {P P' : a_R → Hp → Prop} {pc : Nat} {lv lv' : List (Nat × AV)} {st : List AV} {h : Hp}
/-- what the caller has behind the call -/
def a_Back (p : Program) (l : Launch) (e : Env) (G : a_G) (M : a_M) (s : State) (m : MethodId) (args : Array Value) (below : List Frame) (meth : Method) (c : Code) (n0 u0 : Nat) (locs : List Loc) (P' : a_R → Hp → Prop) (g : JFrame) (S : State) : Prop :=
  ∃ (r : a_R) (h' : Hp) (T' : State) (L : List Loc), P' r h' ∧ okr r ∧ Stand p l e (a_rm M n0 u0) s m args below meth c T' (locs ++ L) (hX h' - n0) (hU h' - u0) ∧ a_Rep s G h' T'.heap ∧ (n0 ≤ hX h' ∧ hX h' ≤ a_NX ∧ u0 ≤ hU h' ∧ hU h' ≤ a_US) ∧ (∀ q ∈ L, a_B G ≤ q.base) ∧
    match r with
    | .inl v => Steps p.tables e below S (T'.setTop { g with pc := g.pc + 3, stack := (v.map (a_cv (a_rh G))).toList ++ g.stack })
    | .inr x => Steps p.tables e below S ((T'.setTop g).pushFrame (.throwing (a_rh G x)))
theorem a_come {p : Program} {e : Env} {s : State} {m : MethodId} {args : Array Value} {below : List Frame} {meth : Method} {c : Code} {n0 u0 : Nat} {locs : List Loc} {T : State} {as : List AV} {ig : Instr} (C : a_Cx G M p s m meth c) (lim : n0 ≤ hX h ∧ hX h ≤ a_NX ∧ u0 ≤ hU h ∧ hU h ≤ a_US) (X : Stand p l e (a_rm M n0 u0) s m args below meth c T locs (hX h - n0) (hU h - u0)) (R : a_Rep s G h T.heap)
    (k' : AW l G M' P' 0 (a_ar 0 as) [] h) (hM : a_Ok M') (has : ∀ v ∈ as, okv v) (haw : a_aw as ≤ a_ml M') {ls : Array Slot} (hsz : ls.size = a_ml M) (hdg : decode (a_cc M) pc = .ok (ig, 3)) (hfr : a_fr M' + 1 ≤ a_fr M) (hlo : a_aw st + (a_ml M' + 11) + a_lo M' ≤ a_lo M) {mk : MethodId} (hmk : s.methodNamed? (a_y M') = some mk) :
    ∀ acts, a_Back p l e G M s m args below meth c n0 u0 locs P' (F0 m pc ls (st.map (a_cv (a_rh G)))) (doInvoke e (T.setTop (F0 m pc ls (st.map (a_cv (a_rh G))))) acts mk (as.map (a_cv (a_rh G))).toArray).1 := by
  intro acts
  have hWd := C.2.2.2.2.2.1
  obtain ⟨mk', methk, ck, g1, g2, g3, g4, g5, g6, g7, g8, g9, g10, g11, g12, k, hk, hki⟩ := hM.at (hWd.moved X.warmed)
  have hn' : T.methodNamed? (a_y M') = some mk := X.named hmk
  cases hn'.symm.trans g1
  have hsz' : (F0 m pc ls (st.map (a_cv (a_rh G)))).locals.size = c.maxLocals := by rw [C.2.2.2.1]; exact hsz
  obtain ⟨Y, hin⟩ := X.into (R' := a_rm M' (hX h) (hU h)) (g := F0 m pc ls (st.map (a_cv (a_rh G)))) rfl hsz' (by rw [C.2.1]; exact hdg) (as.map (a_cv (a_rh G))).toArray g2 g3 g8 g12 hfr (by
      show 2 * 0 + ((st.map (a_cv (a_rh G))).map fun v => v.category).sum + (ck.maxLocals + 11) + a_lo M' ≤ a_lo M
      rw [a_wt, g5]; omega) (by show hX h - n0 + (a_NX - hX h) ≤ a_NX - n0; omega) (by show hU h - u0 + (a_US - hU h) ≤ a_US - u0; omega)
  generalize hUe : (T.setTop (F0 m pc ls (st.map (a_cv (a_rh G))))).pushFrame (.java (entryFrame mk (as.map (a_cv (a_rh G))).toArray ck.maxLocals)) = U at Y hin
  have hUh : U.heap = T.heap := by rw [← hUe]; rfl
  have hentry := lv_entry (as.map (a_cv (a_rh G))) (n := a_ml M') (by rw [a_aw_len]; exact haw)
  rw [a_ar_lm] at hentry
  have C' : a_Cx G M' p (T.calling (F0 m pc ls (st.map (a_cv (a_rh G)))) mk (as.map (a_cv (a_rh G))).toArray) mk methk ck := ⟨C.1, g4, g7, g5, g11, hWd.moved (U := T.calling _ mk _) X.warmed, va_K.moved (U := T.calling _ mk _) X.warmed.alike C.2.2.2.2.2.2.1, g8, g6, g10, C.2.2.2.2.2.2.2.2.2.2⟩
  have S' : a_St G M' (T.calling (F0 m pc ls (st.map (a_cv (a_rh G)))) mk (as.map (a_cv (a_rh G))).toArray) (hX h) (hU h) T.heap [] _ (a_ar 0 as) [] h := ⟨⟨Nat.le_refl _, lim.2.1, Nat.le_refl _, lim.2.2.2⟩, R.moved (U := T.calling _ mk _) X.warmed.alike, hentry, a_ar_ok _ _ has, (fun v hv => by cases hv), (fun q hq => by cases hq)⟩
  have kW := k' p e _ mk (as.map (a_cv (a_rh G))).toArray (.java (F0 m pc ls (st.map (a_cv (a_rh G)))) :: below) methk ck (hX h) (hU h) T.heap [] _ C' S'
  rw [Nat.sub_self, Nat.sub_self] at kW
  obtain ⟨t, st1, r, h', L, q1, q2, q3, q4, q5, q6, q7, q8, q9, q10, q11, q12⟩ := kW U hUh Y
  have st2 : Steps p.tables e below (doInvoke e (T.setTop (F0 m pc ls (st.map (a_cv (a_rh G))))) acts mk (as.map (a_cv (a_rh G))).toArray).1 t := by
    rw [hin acts, g5, lg_entry_eq]
    exact a_weaken (mid := [.java (F0 m pc ls (st.map (a_cv (a_rh G))))]) st1
  have hal : s.vm.Alike t.vm := X.warmed.alike.trans (show T.vm.Alike t.vm from q10.alike)
  rcases r with v | x
  · obtain ⟨T', X', w1, w2, ht⟩ := X.outOf (g := F0 m pc ls (st.map (a_cv (a_rh G)))) rfl (by rw [C.2.1]; exact hdg) q4 q10 q11
    have hh : T'.heap = t.heap := by rw [ht]; rfl
    refine ⟨.inl v, h', T', L, q1, q2, ?_, by rw [hh]; exact q5.moved hal.symm, ⟨by omega, q7, by omega, q9⟩, q12, by show Steps p.tables e below _ _; rw [← ht]; exact st2⟩
    rw [show hX h' - n0 = hX h - n0 + (hX h' - hX h) by omega, show hU h' - u0 = hU h - u0 + (hU h' - hU h) by omega]
    exact X'
  · obtain ⟨T', X', w1, w2, ht⟩ := X.outOfThrown (g := F0 m pc ls (st.map (a_cv (a_rh G)))) rfl q4 q10 q11
    have hh : T'.heap = t.heap := by rw [ht]; rfl
    refine ⟨.inr x, h', T', L, q1, q2, ?_, by rw [hh]; exact q5.moved hal.symm, ⟨by omega, q7, by omega, q9⟩, q12, by show Steps p.tables e below _ _; rw [← ht]; exact st2⟩
    rw [show hX h' - n0 = hX h - n0 + (hX h' - hX h) by omega, show hU h' - u0 = hU h - u0 + (hU h' - hU h) by omega]
    exact X'
/-- an exception x has come to pc: what is left to show -/
def AT (l : Launch) (G : a_G) (M : a_M) (P : a_R → Hp → Prop) (pc : Nat) (lv : List (Nat × AV)) (x : Nat) (h : Hp) : Prop :=
  ∀ (p : Program) (e : Env) (s : State) (m : MethodId) (args : Array Value) (below : List Frame) (meth : Method) (c : Code) (n0 u0 : Nat) (H : Heap) (locs : List Loc) (ls : Array Slot) (rest : List Value), a_Cx G M p s m meth c → a_St G M s n0 u0 H locs ls lv [] h → ∀ T : State, T.heap = H → Stand p l e (a_rm M n0 u0) s m args below meth c T locs (hX h - n0) (hU h - u0) →
    ∃ t, Steps p.tables e below ((T.setTop (F0 m pc ls rest)).pushFrame (.throwing (a_rh G x))) t ∧ a_Q G below s n0 u0 P t
theorem at_leave {x : Nat} (hh : a_hs M = []) (hP : P (.inr x) h) : AT l G M P pc lv x h := by
  intro p e s m args below meth c n0 u0 H locs ls rest C S T hT X
  have hemp : c.exceptionTable.toList = [] := List.map_eq_nil_iff.mp (C.2.2.2.2.2.2.2.2.1.trans hh)
  obtain ⟨w1, w2, w3, w4, w5⟩ := X.leaveThrown (a_rh G x) (g := F0 m pc ls rest) rfl rfl rfl (fun y hy => by rw [hemp] at hy; cases hy) C.2.2.2.2.2.2.2.1
  obtain ⟨l1, l2, l3, l4⟩ := S.1
  exact ⟨_, w1, .inr x, h, locs, hP, trivial, w2, w3, by show a_Rep _ G h T.heap; rw [hT]; exact S.rep.moved w4.alike, l1, l2, l3, l4, w4, w5, S.2.2.2.2.2⟩
theorem a_goOn {p : Program} {e : Env} {s : State} {m : MethodId} {args : Array Value} {below : List Frame} {meth : Method} {c : Code} {n0 u0 : Nat} {H : Heap} {locs : List Loc} {ls : Array Slot} {st0 : List AV} {S0 : State} (C : a_Cx G M p s m meth c) (S : a_St G M s n0 u0 H locs ls lv st0 h) (hst : ∀ v ∈ st, okv v) (hb : a_Back p l e G M s m args below meth c n0 u0 locs P' (F0 m pc ls (st.map (a_cv (a_rh G)))) S0)
    (kr : ∀ v h', P' (.inl v) h' → AW l G M P (pc + 3) lv (v.toList ++ st) h') (kt : ∀ x h', P' (.inr x) h' → AT l G M P pc lv x h') : ∃ t, Steps p.tables e below S0 t ∧ a_Q G below s n0 u0 P t := by
  obtain ⟨r, h', T', L, q1, q2, X', R', lim', hL, hr⟩ := hb
  obtain ⟨h1, h2, h3, h4, h5, h6⟩ := S
  have hlocs : ∀ q ∈ locs ++ L, a_B G ≤ q.base := fun q hq => (List.mem_append.mp hq).elim (h6 q) (hL q)
  rcases r with v | x
  · have hok : ∀ u ∈ v.toList ++ st, okv u := fun u hu => by
      rcases List.mem_append.mp hu with hu | hu
      · cases v with
        | none => cases hu
        | some w =>
          rw [List.mem_singleton.mp hu]
          exact q2
      · exact hst u hu
    obtain ⟨t, a1, b1⟩ := kr v h' q1 p e s m args below meth c n0 u0 T'.heap (locs ++ L) ls C ⟨lim', R', h3, h4, hok, hlocs⟩ T' rfl X'
    refine ⟨t, Steps.trans hr ?_, b1⟩
    have e1 : (v.map (a_cv (a_rh G))).toList ++ st.map (a_cv (a_rh G)) = (v.toList ++ st).map (a_cv (a_rh G)) := by
      rw [List.map_append]
      cases v <;> rfl
    show Steps p.tables e below (T'.setTop (F0 m (pc + 3) ls ((v.map (a_cv (a_rh G))).toList ++ st.map (a_cv (a_rh G))))) t
    rw [e1]
    exact a1
  · obtain ⟨t, a1, b1⟩ := kt x h' q1 p e s m args below meth c n0 u0 T'.heap (locs ++ L) ls (st.map (a_cv (a_rh G))) C ⟨lim', R', h3, h4, (fun v hv => by cases hv), hlocs⟩ T' rfl X'
    exact ⟨t, Steps.trans hr a1, b1⟩
/-- what a call needs: room above, words -/
def a_Rm (M M' : a_M) (n w : Nat) : Prop := a_Ok M' ∧ n ≤ a_ml M' ∧ a_fr M' + 1 ≤ a_fr M ∧ w + (a_ml M' + 11) + a_lo M' ≤ a_lo M
theorem aw_callS {i : Nat} {as : List AV} {st0 : List AV} (hd : decode (a_cc M) pc = .ok (.invokestatic i, 3)) (hrm : a_Rm M M' (a_aw as) (a_aw st)) (hw : Cond.methodLink (a_ow M) i (a_y M') ∈ lw_tbl) (hw2 : Cond.static (a_y M') ∈ lw_tbl) (hn : (parseMethodDescriptor (a_y M').desc).map (fun d => d.parameters.length) = some as.length) (hst : st0 = as.reverse ++ st) (k' : AW l G M' P' 0 (a_ar 0 as) [] h) (kr : ∀ v h', P' (.inl v) h' → AW l G M P (pc + 3) lv (v.toList ++ st) h') (kt : ∀ x h', P' (.inr x) h' → AT l G M P pc lv x h') : AW l G M P pc lv st0 h := by
  subst hst
  intro p e s m args below meth c n0 u0 H locs ls C S T hT X
  have hs := S.ok
  obtain ⟨hM, haw, hfr, hlo⟩ := hrm
  have hWd := C.2.2.2.2.2.1
  obtain ⟨mk, methk, ck, g1, g2, g3, g4, g5, g6, g7, g8, g9, g10, g11, g12, k, hk, hki⟩ := hM.at hWd
  have hlen : (as.map (a_cv (a_rh G))).length = methk.sig.parameters.length := by
    rw [g9] at hn
    rw [List.length_map]
    exact (Option.some.inj hn).symm
  obtain ⟨vm₁, X₁, hstep⟩ := X.invokestatic C.1 C.2.2.2.2.1 (hWd.at hw rfl args) g1 g2 (Cond.static_spec g1 g2 (hWd.at hw2 rfl args)) hk hki hM.2.2.1 (g := F0 m pc ls ((as.reverse ++ st).map (a_cv (a_rh G)))) rfl (argsL := as.map (a_cv (a_rh G))) (rest := st.map (a_cv (a_rh G))) hlen (by show (as.reverse ++ st).map _ = _; rw [List.map_append, List.map_reverse]) (by rw [C.2.1]; exact hd)
  have has : ∀ v ∈ as, okv v := fun v hv => hs v (List.mem_append_left _ (List.mem_reverse.mpr hv))
  have hst : ∀ v ∈ st, okv v := fun v hv => hs v (List.mem_append_right _ hv)
  have hb := a_come (st := st) (pc := pc) C S.1 X₁ (by show a_Rep s G h T.heap; rw [hT]; exact S.rep) k' hM has haw S.2.2.1.1 hd hfr hlo g1 []
  obtain ⟨t, a1, b1⟩ := a_goOn C S hst hb kr kt
  refine ⟨t, hstep t (fun acts => ?_), b1⟩
  rw [doInvoke_state]
  exact a1
theorem aw_callV {i ci b : Nat} {as : List AV} {st0 : List AV} (hd : decode (a_cc M) pc = .ok (.invokevirtual i, 3)) (hrm : a_Rm M M' (a_aw (vr b :: as)) (a_aw st)) (hci : ci < 11) (hcy : (a_y M').cls = a_cn ci) (hw : Cond.methodLink (a_ow M) i (a_y M') ∈ lw_tbl) (hw2 : Cond.instanceMethod (a_y M') ∈ lw_tbl) (hw3 : Cond.selects (a_cn ci) (a_y M') (a_y M') ∈ lw_tbl) (hn : (parseMethodDescriptor (a_y M').desc).map (fun d => d.parameters.length) = some as.length) (hst : st0 = as.reverse ++ (vr b :: st)) (hkb : hK h b = 20 + ci) (k' : AW l G M' P' 0 (a_ar 0 (vr b :: as)) [] h) (kr : ∀ v h', P' (.inl v) h' → AW l G M P (pc + 3) lv (v.toList ++ st) h') (kt : ∀ x h', P' (.inr x) h' → AT l G M P pc lv x h') : AW l G M P pc lv st0 h := by
  subst hst
  intro p e s m args below meth c n0 u0 H locs ls C S T hT X
  have hs := S.ok
  obtain ⟨hM, haw, hfr, hlo⟩ := hrm
  have hWd := C.2.2.2.2.2.1
  obtain ⟨mk, methk, ck, g1, g2, g3, g4, g5, g6, g7, g8, g9, g10, g11, g12, k, hk, hki⟩ := hM.at hWd
  have hlen : (as.map (a_cv (a_rh G))).length = methk.sig.parameters.length := by
    rw [g9] at hn
    rw [List.length_map]
    exact (Option.some.inj hn).symm
  obtain ⟨mk2, methM, y1, y2, y3, y4⟩ := Cond.instanceMethod_spec (hWd.at hw2 rfl args)
  cases g1.symm.trans y1
  cases g2.symm.trans y2
  obtain ⟨c2, r2, m2, z1, z2, z3, z4, kP, hkP, hkPi⟩ := Cond.selects_spec (hWd.at hw3 rfl args)
  obtain ⟨-, cell, e1, e2, e3, e4⟩ := (S.rep.2.2.2 b).2.1 (by omega) (by omega)
  rw [show hK h b - 20 = ci by omega] at e2
  have hfc := (C.2.2.2.2.2.2.1.1 ci _ (a_cls_at hci)).2.1
  have ec : some c2 = some cell.cls := by rw [e2]; exact z1.symm.trans hfc
  cases ec
  cases (State.methodFound?_of_named g1 hM.2.2.1).symm.trans z2
  cases g1.symm.trans z3
  have hselP : selectMethod e.platform s.vm cell.cls mk = .method mk := by rw [Launch.admits_selectMethod X.admits]; exact z4
  obtain ⟨vm₁, X₁, hstep⟩ := X.invokevirtual C.1 C.2.2.2.2.1 (hWd.at hw rfl args) g1 g2 y3 hkP hkPi hM.2.2.1 (a := a_rh G b) (cell := cell) (by rw [hT]; exact e1) (fun q hq => by rw [e3] at hq; cases hq) hselP g2 y4 hkP hkPi (g := F0 m pc ls ((as.reverse ++ (vr b :: st)).map (a_cv (a_rh G)))) rfl (argsL := as.map (a_cv (a_rh G))) (rest := st.map (a_cv (a_rh G))) hlen (by show (as.reverse ++ (vr b :: st)).map _ = _; rw [List.map_append, List.map_reverse]; rfl) (by rw [C.2.1]; exact hd)
  have has : ∀ v ∈ vr b :: as, okv v := fun v hv => by
    rcases List.mem_cons.mp hv with rfl | hv
    · exact trivial
    · exact hs v (List.mem_append_left _ (List.mem_reverse.mpr hv))
  have hst : ∀ v ∈ st, okv v := fun v hv => hs v (List.mem_append_right _ (List.mem_cons_of_mem _ hv))
  have hb := a_come (st := st) (pc := pc) C S.1 X₁ (by show a_Rep s G h T.heap; rw [hT]; exact S.rep) k' hM has haw S.2.2.1.1 hd hfr hlo g1 []
  obtain ⟨t, a1, b1⟩ := a_goOn C S hst hb kr kt
  refine ⟨t, hstep t (fun acts => ?_), b1⟩
  rw [doInvoke_state]
  exact a1
theorem aw_callI {i b : Nat} {as : List AV} {st0 : List AV} (hd : decode (a_cc M) pc = .ok (.invokespecial i, 3)) (hrm : a_Rm M M' (a_aw (vr b :: as)) (a_aw st)) (hnm : (a_y M').name = "<init>") (hrt : a_rt M' = none) (hcd : Cond.code (a_y M') (a_cc M') (a_ml M') (a_rt M') ∈ lw_tbl) (hw : Cond.methodLink (a_ow M) i (a_y M') ∈ lw_tbl) (hw2 : Cond.instanceMethod (a_y M') ∈ lw_tbl) (hn : (parseMethodDescriptor (a_y M').desc).map (fun d => d.parameters.length) = some as.length) (hst : st0 = as.reverse ++ (vr b :: st)) (k' : AW l G M' P' 0 (a_ar 0 (vr b :: as)) [] h) (kr : ∀ v h', P' (.inl v) h' → AW l G M P (pc + 3) lv (v.toList ++ st) h') (kt : ∀ x h', P' (.inr x) h' → AT l G M P pc lv x h') : AW l G M P pc lv st0 h := by
  subst hst
  intro p e s m args below meth c n0 u0 H locs ls C S T hT X
  have hs := S.ok
  obtain ⟨hM, haw, hfr, hlo⟩ := hrm
  have hWd := C.2.2.2.2.2.1
  have hpl : e.platform.magicAccessors = ({} : Platform).magicAccessors := by rw [X.admits.platform]
  have hX' : At T m c below := X.here
  rw [hrt] at hcd
  obtain ⟨mk, methM, cM, kP, vm₁, hnamed, hmethM, hcodeM, -, hlocalsM, -, hkP, -, hW₁, hstep⟩ := Steps.initColdArgs (tb := p.tables) (e := e) (below := below) (s := s) (U := T) hX' C.1 X.warmed hpl C.2.2.2.2.1 (t := a_y M') hnm hM.2.2.1 (hWd.at hw rfl args) (hWd.at hw2 rfl args) (hWd.at hcd rfl args) (f := F0 m pc ls ((as.reverse ++ (vr b :: st)).map (a_cv (a_rh G)))) rfl (a := a_rh G b) (argsL := as.map (a_cv (a_rh G))) (rest := st.map (a_cv (a_rh G)))
    (fun sig hsig => by rw [hsig] at hn; rw [List.length_map]; exact (Option.some.inj hn).symm) (by show (as.reverse ++ (vr b :: st)).map _ = _; rw [List.map_append, List.map_reverse]; rfl) (by rw [C.2.1]; exact hd)
  have X₁ := X.noted hW₁
  have has : ∀ v ∈ vr b :: as, okv v := fun v hv => by
    rcases List.mem_cons.mp hv with rfl | hv
    · exact trivial
    · exact hs v (List.mem_append_left _ (List.mem_reverse.mpr hv))
  have hst : ∀ v ∈ st, okv v := fun v hv => hs v (List.mem_append_right _ (List.mem_cons_of_mem _ hv))
  have hb := a_come (st := st) (pc := pc) C S.1 X₁ (by show a_Rep s G h T.heap; rw [hT]; exact S.rep) k' hM has haw S.2.2.1.1 hd hfr hlo hnamed []
  obtain ⟨t, a1, b1⟩ := a_goOn C S hst hb kr kt
  refine ⟨t, hstep t (fun acts => ?_), b1⟩
  rw [doInvoke_state]
  exact a1
end AC
