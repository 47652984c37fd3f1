/-! rows of the picture: exceptions that the class makes and throws, and their catching -/
def a_gw : Cond → Bool
  | .castable _ _ => true
  | .declares _ => true
  | w => goodWord w
theorem a_Wd.at2 {G : a_G} {s : State} (h : a_Wd G s) {w : Cond} (hw : w ∈ lw_tbl) (hg : a_gw w = true) (a : Array Value) : w.before a s = true := by
  by_cases q : goodWord w = true
  · exact h.at hw q a
  · obtain ⟨s0, a0, h1, h2, -⟩ := h
    have h3 := h1 w hw
    cases w with
    | castable X Y =>
      have h4 : (Cond.castable X Y).before a0 (s0.setVm s.vm) = true := Cond.before_shiftedFace (State.Shifted.of_warmed h2) _ rfl h3
      exact h4
    | declares x =>
      have h4 : (Cond.declares x).before a0 (s0.setVm s.vm) = true := Cond.before_shiftedFace (State.Shifted.of_warmed h2) _ rfl h3
      exact h4
    | _ => exact absurd hg q
def a_nr : Cond → Bool
  | .isRef _ => false
  | .laysStatic .. => false
  | _ => true
theorem a_lst {G : a_G} {U : State} (hWd : a_Wd G U) (hH : ∀ q, q < a_B G → U.heap[q]? = (a_H0 G)[q]?) {C n d : String} (h1 : Cond.laysStatic C n d ∈ lw_tbl) (args : Array Value) : (Cond.laysStatic C n d).before args U = true := by
  obtain ⟨s0, a0, w1, w2, w3, w4, w5, -⟩ := hWd
  obtain ⟨c, k, i, f, a, cell, y1, y2, y3, y4, y5, y6, y7, y8, y9⟩ := Cond.laysStatic_spec (w1 _ h1)
  obtain ⟨k', z1, z2⟩ := State.fieldFound?_setVm (s := s0) w2.alike y2
  have z3 : U.fieldFound? C n d = some (c, k', i, f) := z1
  have z4 : U.vm.findClass C = some c := by rw [w2.alike.findClass]; exact y1
  have z5 : U.heap[a]? = some cell := by
    rw [hH a (by rw [w3] at y5; have := (Array.getElem?_eq_some_iff.mp y5).1; omega), ← w3]
    exact y5
  have z6 : k'.statics = some a := by rw [z2]; exact y4
  have z7 : k'.staticTypes[f.slot]? = some f.type := by rw [z2]; exact y9
  simp [Cond.before, Cond.holds, Cond.value, z3, z4, z5, z6, z7, y3, y6, y7, y8]
def a_names : List String := ["java/lang/RuntimeException", "java/lang/Exception"]
set_option maxRecDepth 20000 in
theorem a_own0 : ∀ w ∈ (Bundle.ownAtoms "ModuleSigner" 91 (a_en 0) a_names).filter a_nr, w ∈ tables_1 := a_mem _ [12, 404, 413, 419, 422, 424, 405, 406, 28, 29, 407, 412, 420, 440, 394, 441, 396, 442, 398, 408, 410, 400, 436, 437, 439, 400, 481, 482, 483, 430, 386, 430, 431, 432, 433, 388, 433, 434, 435, 436, 390, 480, 471, 472, 473, 416, 474, 475, 476, 477, 403, 402, 478] (by decide +kernel)
theorem a_owg0 : ∀ w ∈ (Bundle.ownAtoms "ModuleSigner" 91 (a_en 0) a_names).filter a_nr, a_gw w = true := List.all_eq_true.mp (by decide +kernel)
theorem a_init_e0 : Cond.initialized (a_en 0) ∈ lw_tbl := List.mem_append_right _ (List.mem_of_getElem? (i := 16) (by decide +kernel))
set_option maxRecDepth 20000 in
theorem a_own1 : ∀ w ∈ (Bundle.ownAtoms "ModuleSigner" 63 (a_en 1) a_names).filter a_nr, w ∈ tables_1 := a_mem _ [12, 404, 413, 419, 422, 424, 405, 406, 28, 29, 407, 412, 420, 440, 394, 441, 396, 442, 398, 408, 410, 400, 436, 437, 439, 400, 427, 428, 429, 430, 386, 430, 431, 432, 433, 388, 433, 434, 435, 436, 390, 426, 383, 384, 391, 392, 393, 395, 397, 399, 403, 402, 401] (by decide +kernel)
theorem a_owg1 : ∀ w ∈ (Bundle.ownAtoms "ModuleSigner" 63 (a_en 1) a_names).filter a_nr, a_gw w = true := List.all_eq_true.mp (by decide +kernel)
theorem a_init_e1 : Cond.initialized (a_en 1) ∈ lw_tbl := List.mem_append_right _ (List.mem_of_getElem? (i := 15) (by decide +kernel))
set_option maxRecDepth 20000 in
theorem a_own2 : ∀ w ∈ (Bundle.ownAtoms "ModuleSigner" 115 (a_en 2) a_names).filter a_nr, w ∈ tables_1 := a_mem _ [12, 404, 413, 419, 422, 424, 405, 406, 28, 29, 407, 412, 420, 440, 394, 441, 396, 442, 398, 408, 410, 400, 436, 437, 439, 400, 590, 591, 592, 430, 386, 430, 431, 432, 433, 388, 433, 434, 435, 436, 390, 589, 580, 581, 582, 417, 583, 584, 585, 586, 403, 402, 587] (by decide +kernel)
theorem a_owg2 : ∀ w ∈ (Bundle.ownAtoms "ModuleSigner" 115 (a_en 2) a_names).filter a_nr, a_gw w = true := List.all_eq_true.mp (by decide +kernel)
theorem a_init_e2 : Cond.initialized (a_en 2) ∈ lw_tbl := List.mem_append_right _ (List.mem_of_getElem? (i := 19) (by decide +kernel))
set_option maxRecDepth 20000 in
theorem a_own3 : ∀ w ∈ (Bundle.ownAtoms "ModuleSigner" 135 (a_en 3) a_names).filter a_nr, w ∈ tables_1 := a_mem _ [12, 404, 413, 419, 422, 424, 405, 406, 28, 29, 407, 412, 420, 440, 394, 441, 396, 442, 398, 408, 410, 400, 436, 437, 439, 400, 803, 804, 805, 430, 386, 430, 431, 432, 433, 388, 433, 434, 435, 436, 390, 802, 793, 794, 795, 418, 796, 797, 798, 799, 403, 402, 800] (by decide +kernel)
theorem a_owg3 : ∀ w ∈ (Bundle.ownAtoms "ModuleSigner" 135 (a_en 3) a_names).filter a_nr, a_gw w = true := List.all_eq_true.mp (by decide +kernel)
theorem a_init_e3 : Cond.initialized (a_en 3) ∈ lw_tbl := List.mem_append_right _ (List.mem_of_getElem? (i := 21) (by decide +kernel))
set_option maxRecDepth 20000 in
theorem a_own4 : ∀ w ∈ (Bundle.ownAtoms "ModuleSigner$Sampler" 56 (a_en 4) a_names).filter a_nr, w ∈ tables_1 := a_mem _ [12, 404, 413, 419, 422, 424, 405, 406, 28, 29, 407, 412, 420, 440, 394, 441, 396, 442, 398, 408, 410, 400, 436, 437, 439, 400, 683, 684, 685, 430, 386, 430, 431, 432, 433, 388, 433, 434, 435, 436, 390, 682, 673, 674, 675, 415, 676, 677, 678, 679, 403, 402, 680] (by decide +kernel)
theorem a_owg4 : ∀ w ∈ (Bundle.ownAtoms "ModuleSigner$Sampler" 56 (a_en 4) a_names).filter a_nr, a_gw w = true := List.all_eq_true.mp (by decide +kernel)
theorem a_init_e4 : Cond.initialized (a_en 4) ∈ lw_tbl := List.mem_append_right _ (List.mem_of_getElem? (i := 20) (by decide +kernel))
def a_os (e : Nat) : String × Nat := match e with
  | 0 => ("ModuleSigner", 91)
  | 1 => ("ModuleSigner", 63)
  | 2 => ("ModuleSigner", 115)
  | 3 => ("ModuleSigner", 135)
  | _ => ("ModuleSigner$Sampler", 56)
theorem a_own : ∀ e, e < 5 → ∀ w ∈ (Bundle.ownAtoms (a_os e).1 (a_os e).2 (a_en e) a_names).filter a_nr, w ∈ lw_tbl ∧ a_gw w = true := by
  intro e he
  rcases (show e = 0 ∨ e = 1 ∨ e = 2 ∨ e = 3 ∨ e = 4 by omega) with rfl | rfl | rfl | rfl | rfl
  · exact fun w h => ⟨List.mem_append_right _ (a_own0 w h), a_owg0 w h⟩
  · exact fun w h => ⟨List.mem_append_right _ (a_own1 w h), a_owg1 w h⟩
  · exact fun w h => ⟨List.mem_append_right _ (a_own2 w h), a_owg2 w h⟩
  · exact fun w h => ⟨List.mem_append_right _ (a_own3 w h), a_owg3 w h⟩
  · exact fun w h => ⟨List.mem_append_right _ (a_own4 w h), a_owg4 w h⟩
theorem a_init_e : ∀ e, e < 5 → Cond.initialized (a_en e) ∈ lw_tbl := by
  intro e he
  rcases (show e = 0 ∨ e = 1 ∨ e = 2 ∨ e = 3 ∨ e = 4 by omega) with rfl | rfl | rfl | rfl | rfl
  · exact a_init_e0
  · exact a_init_e1
  · exact a_init_e2
  · exact a_init_e3
  · exact a_init_e4
theorem a_fit : ∀ e, e < 5 → Bundle.fit (a_en e) = true := by
  intro e he
  rcases (show e = 0 ∨ e = 1 ∨ e = 2 ∨ e = 3 ∨ e = 4 by omega) with rfl | rfl | rfl | rfl | rfl
  · decide +kernel
  · decide +kernel
  · decide +kernel
  · decide +kernel
  · decide +kernel
theorem a_own_in {own : String} {ic e : Nat} (w : Cond) (hw : w ∈ Bundle.ownAtoms own ic (a_en e) a_names) (o2 : String) (i2 : Nat) : w = .methodLink own ic (Bundle.initS (a_en e)) ∨ w ∈ Bundle.ownAtoms o2 i2 (a_en e) a_names := by
  unfold Bundle.ownAtoms at hw ⊢
  rcases List.mem_append.mp hw with h | h
  · exact Or.inr (List.mem_append_left _ h)
  · rcases List.mem_cons.mp h with h | h
    · exact Or.inl h
    · exact Or.inr (List.mem_append_right _ (List.mem_cons_of_mem _ h))
theorem a_isref {G : a_G} {U : State} (hWd : a_Wd G U) (hH : ∀ q, q < a_B G → U.heap[q]? = (a_H0 G)[q]?) {C n d : String} (h1 : Cond.laysStatic C n d ∈ lw_tbl) (h2 : Cond.initialized C ∈ lw_tbl) (h3 : Cond.isRef (.static C n d) ∈ flatC (Jvm.Cond.and given_1 narrow_1)) (args : Array Value) : (Cond.isRef (.static C n d)).before args U = true := by
  obtain ⟨s0, a0, w1, w2, w3, w4, w5, -⟩ := hWd
  have hz := va_Zqof (A := fun q => a_B G ≤ q) (w1 _ h1) (w1 _ h2) (flat_of_before _ w4 _ h3) (fun a ha => by rw [w3, w5] at ha; omega)
  have key : ∀ v : Value, (v = .null ∨ ∃ t, v = .ref t) → va_Z C n d v (fun q => a_B G ≤ q) U s0.heap → (Cond.isRef (.static C n d)).before args U = true := by
    rintro v hv ⟨cf, kf, fi, f, a, cell, z1, z2, z3, z4, z5, z6, z7, z8⟩
    have hc : U.heap[a]? = some cell := by
      rw [hH a (by omega), ← w3]
      exact z5
    have he : (Term.static C n d).eval args U none [] U = some v := by
      simp [Term.eval, State.fieldNamed?, z1, z2, z4, hc, z6, z7]
    simp only [Cond.before, Cond.holds, Cond.value, he]
    rcases hv with rfl | ⟨t, rfl⟩ <;> rfl
  rcases hz.moved w2.alike with h | ⟨t, h⟩
  · exact key _ (Or.inl rfl) h
  · exact key _ (Or.inr ⟨t, rfl⟩) h
theorem a_ir1 : Cond.isRef (.static Bundle.tN "UNASSIGNED_STACK" Bundle.steD) ∈ flatC (Jvm.Cond.and given_1 narrow_1) := by decide +kernel
theorem a_ir2 : Cond.isRef (.static Bundle.tN "SUPPRESSED_SENTINEL" Bundle.listD) ∈ flatC (Jvm.Cond.and given_1 narrow_1) := by decide +kernel
theorem a_ir3 : Cond.laysStatic Bundle.tN "UNASSIGNED_STACK" Bundle.steD ∈ lw_tbl := List.mem_append_right _ (List.mem_of_getElem? (i := 409) (by decide +kernel))
theorem a_ir4 : Cond.laysStatic Bundle.tN "SUPPRESSED_SENTINEL" Bundle.listD ∈ lw_tbl := List.mem_append_right _ (List.mem_of_getElem? (i := 411) (by decide +kernel))
theorem a_ir5 : Cond.initialized Bundle.tN ∈ lw_tbl := List.mem_append_right _ (List.mem_of_getElem? (i := 12) (by decide +kernel))
theorem a_ownAll {G : a_G} {U : State} (hWd : a_Wd G U) (hH : ∀ q, q < a_B G → U.heap[q]? = (a_H0 G)[q]?) {own : String} {ic e : Nat} (he : e < 5) (hl : Cond.methodLink own ic (Bundle.initS (a_en e)) ∈ lw_tbl) (args : Array Value) : ∀ w ∈ Bundle.ownAtoms own ic (a_en e) a_names, w.before args U = true := by
  intro w hw
  rcases a_own_in w hw (a_os e).1 (a_os e).2 with rfl | hw
  · exact hWd.at hl rfl args
  · by_cases q : a_nr w = true
    · obtain ⟨q1, q2⟩ := a_own e he w (List.mem_filter.mpr ⟨hw, q⟩)
      exact hWd.at2 q1 q2 args
    · have hr : w = .isRef (.static Bundle.tN "UNASSIGNED_STACK" Bundle.steD) ∨ w = .isRef (.static Bundle.tN "SUPPRESSED_SENTINEL" Bundle.listD) ∨ w = .laysStatic Bundle.tN "UNASSIGNED_STACK" Bundle.steD ∨ w = .laysStatic Bundle.tN "SUPPRESSED_SENTINEL" Bundle.listD := by
        simp only [Bundle.ownAtoms, Bundle.throwableAtoms, Bundle.throwableSAtoms, Bundle.chainSAtoms, Bundle.passSAtoms, a_names, List.cons_append, List.nil_append, List.mem_cons, List.mem_append, List.not_mem_nil, or_false, false_or] at hw
        revert q
        rcases hw with h | h | h | h | h | h | h | h | h | h | h | h | h | h | h | h | h | h | h | h | h | h | h | h | h | h | h | h | h | h | h | h | h | h | h | h | h | h | h | h | h | h | h | h | h | h | h | h | h | h | h | h | h | h | h | h | h <;> subst h <;> intro q <;> first | exact absurd rfl q | exact Or.inl rfl | exact Or.inr (Or.inl rfl) | exact Or.inr (Or.inr (Or.inl rfl)) | exact Or.inr (Or.inr (Or.inr rfl))
      rcases hr with rfl | rfl | rfl | rfl
      · exact a_isref hWd hH a_ir3 a_ir5 a_ir1 args
      · exact a_isref hWd hH a_ir4 a_ir5 a_ir2 args
      · exact a_lst hWd hH a_ir3 args
      · exact a_lst hWd hH a_ir4 args
