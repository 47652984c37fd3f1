/-! rows of the picture: 'throw new X("..")', and the handlers of the law's calls -/
def a_rb (s T : State) : State := { s with heap := T.heap, slotsUsed := T.slotsUsed }
/-- the walk goes on from where it stands, as if it had begun with this heap -/
theorem a_rebase {p : Program} {l : Launch} {e : Env} {M : a_M} {s : State} {m : MethodId} {args : Array Value} {below : List Frame} {meth : Method} {c : Code} {n0 u0 x u : Nat} {T : State} {locs : List Loc} (hx : n0 ≤ x ∧ x ≤ a_NX) (hu : u0 ≤ u ∧ u ≤ a_US) (X : Stand p l e (a_rm M n0 u0) s m args below meth c T locs (x - n0) (u - u0)) : Stand p l e (a_rm M x u) (a_rb s T) m args below meth c T [] 0 0 := by
  have hh := X.heapHas (a := a_NX - x) (b := a_US - u) (by show x - n0 + (a_NX - x) ≤ a_NX - n0; omega) (by show u - u0 + (a_US - u) ≤ a_US - u0; omega)
  have hbook : (a_rb s T).slotsTrue = true := X.book
  have hroom := X.room
  refine ⟨X.admits, X.cas, X.clock, X.frames, ?_, X.hears, X.method, X.code, X.here, X.tail, X.warmed, X.limits, X.bytes, ?_⟩
  · simp only [State.hasRoom, Bool.and_eq_true, decide_eq_true_eq] at hroom ⊢
    exact ⟨⟨⟨hroom.1.1.1, hh.1⟩, hh.2⟩, hbook⟩
  · have hcur : (a_rb s T).cur < (a_rb s T).threads.size := X.cur
    obtain ⟨t, ht, -⟩ := State.frames_cons X.frames
    have h1 := (State.sameButNew.refl (a_rb s T) (x := t) ht).setFrames (T.setVm s.vm).frames hcur
    have e1 := X.same.1
    have e2 : T.setVm s.vm = (a_rb s T).setFrames (T.setVm s.vm).frames := e1
    show (a_rb s T).sameButNew (T.setVm s.vm) [] 0 0
    rw [e2]
    exact h1
theorem a_same_sF {A B : State} {F : List Frame} {locs : List Loc} {k n : Nat} (h : A.sameButNew B locs k n) : (A.setFrames F).sameButNew B locs k n := by
  obtain ⟨e1, e2, e3, e4, e5, e6⟩ := h
  refine ⟨?_, e2, e3, e4, e5, e6⟩
  rw [State.setFrames_setFrames]
  exact e1
section ATh
variable {l : Launch} {G : a_G} {M : a_M} {P : a_R → Hp → Prop} {pc : Nat} {lv lv' : List (Nat × AV)} {st : List AV} {h : Hp}
theorem a_lit {G : a_G} {s : State} (hWd : a_Wd G s) {own tx : String} {k : Nat} (hw : Cond.stringRef own k tx ∈ lw_tbl) : ∃ q, vk_R own k tx q s := by
  obtain ⟨s0, a0, w1, w2, -⟩ := hWd
  have h1 := w1 _ hw
  cases hc : s0.vm.findClass own with
  | none => simp [Cond.before, Cond.holds, Cond.value, hc] at h1
  | some cc =>
    obtain ⟨k1, cf, i, a, hk, hcf, hp, -, hr, -⟩ := Cond.stringRef_spec hc h1
    refine ⟨a, (vk_R.of h1 ?_).warm w2⟩
    simp [Term.eval, hc, hk, hr]
theorem aw_throw {i k j e : Nat} (hfl : l.flags = flags0) (hd0 : decode (a_cc M) pc = .ok (.new i, 3)) (hd3 : decode (a_cc M) (pc + 3) = .ok (.dup, 1)) (hd4 : decode (a_cc M) (pc + 4) = .ok (.ldc k, 2)) (hd6 : decode (a_cc M) (pc + 6) = .ok (.invokespecial j, 3)) (hd9 : decode (a_cc M) (pc + 9) = .ok (.athrow, 1)) (tx : String) (hstr : Cond.stringRef (a_ow M) k tx ∈ lw_tbl) (he : e < 5) (hcl : Cond.classLink (a_ow M) i (a_en e) ∈ lw_tbl) (hl : Cond.methodLink (a_ow M) j (Bundle.initS (a_en e)) ∈ lw_tbl) (hh : a_hs M = []) (hfr : 6 ≤ a_fr M) (hlo : a_aw st + 82 ≤ a_lo M) (hx : hX h + 1 ≤ a_NX) (hu : hU h + 6 ≤ a_US) (hP : P (.inr (hX h)) (wN h (40 + e) 6)) : AW l G M P pc lv st h := by
  intro p e' s m args below meth c n0 u0 H locs ls C S T hT X
  obtain ⟨l1, l2, l3, l4⟩ := S.1
  have Xr := a_rebase ⟨l1, l2⟩ ⟨l3, l4⟩ X
  have hWd : a_Wd G (a_rb s T) := C.2.2.2.2.2.1
  have hemp : c.exceptionTable.toList = [] := List.map_eq_nil_iff.mp (C.2.2.2.2.2.2.2.2.1.trans hh)
  have hown : (a_rb s T).vm.findClass (a_ow M) = some m.cls := C.2.2.2.2.1
  have hH : ∀ q, q < a_B G → (a_rb s T).heap[q]? = (a_H0 G)[q]? := fun q hq => by show T.heap[q]? = _; rw [hT]; exact S.rep.2.2.1 q hq
  have hall := a_ownAll hWd hH he hl args
  have hinst : (Cond.instantiable (a_en e) 6).before args (a_rb s T) = true := hall _ (by simp [Bundle.ownAtoms])
  obtain ⟨cX, kX, hfX, hkX, -, -, -, hn6⟩ := Cond.instantiable_spec hinst
  obtain ⟨q, hq⟩ := a_lit hWd hstr
  have htr : e'.platform.stackTraces = false := Launch.traces_off hfl X.admits
  have W1 : W p l e' (a_rm M (hX h) (hU h)) (a_rb s T) m args below meth c T.heap [] 0 0 (fun U => U.status = .running ∧ Ended U below (.threw T.heap.size) ∧ (a_rb s T).WarmedH U.vm ∧ (a_rb s T).sameButNew ({ U with vm := (a_rb s T).vm } : State) [] 1 6 ∧ ∃ ce, U.heap[T.heap.size]? = some ce ∧ Bundle.OwnCell args (a_rb s T) (a_en e) T.heap.size (.ref q) ce) (F0 m pc ls (st.map (a_cv (a_rh G)))) := by
    refine W.newcK (n := 6) C.1 C.2.1 hown (hWd.at hcl rfl args) hinst (hWd.at (a_init_e e he) rfl args) rfl hd0 (by show 0 + 1 ≤ a_NX - hX h; omega) (by show 0 + 6 ≤ a_US - hU h; omega) hfX rfl fun H1 kC hkC e1 z1 o1 => ?_
    cases hkX.symm.trans hkC
    refine lv_dup C.1 C.2.1 hd3 rfl ?_
    refine va_ldcS C.1 C.2.1 hown hq hd4 ?_
    intro T2 hT2 X2
    obtain ⟨U, u1, u2, u3, u4, u5, u6⟩ := X2.ctorThrowS C.1 htr (cls := a_en e) (names := a_names) (ic := j) hown (a_fit e he) (by decide +kernel) hall (fun x hx => by cases hx) (a := T.heap.size) hfX hkX (by rw [hT2]; exact e1) (Nat.le_refl _) (msg := .ref q) rfl (g := F0 m (pc + 3 + 1 + 2) ls (.ref q :: .ref T.heap.size :: .ref T.heap.size :: st.map (a_cv (a_rh G)))) rfl (S.2.2.1.1.trans C.2.2.2.1.symm) rfl rfl rfl (by rw [C.2.1]; exact hd6) (by rw [C.2.1]; exact hd9) (fun x hx => by rw [hemp] at hx; cases hx) (by show 2 + 3 < a_fr M; omega) (by
      show 2 * 0 + ((Value.ref T.heap.size :: st.map (a_cv (a_rh G))).map fun v => v.category).sum + (13 * (2 + 1) + 42) ≤ a_lo M
      rw [List.map_cons, List.sum_cons, a_wt]
      show 2 * 0 + (1 + a_aw st) + (13 * (2 + 1) + 42) ≤ a_lo M
      omega) C.2.2.2.2.2.2.2.1
    exact ⟨U, u1, u2, u3, u4, u5, u6⟩
  obtain ⟨t, a1, b1, b2, b3, b4, ce, b5, b6⟩ := W1 T rfl Xr
  have hsz : T.heap.size = a_rh G (hX h) := by rw [hT]; exact (a_rh_nx S.rep).symm
  have hts : t.heap.size = H.size + 1 := by
    have h1 := b4.2.2.1
    have h2 := (Array.getElem?_eq_some_iff.mp b5).1
    have h3 : t.heap.size ≤ T.heap.size + 1 := h1
    rw [← hT]
    omega
  have hold : ∀ x, x < H.size → t.heap[x]? = H[x]? := fun x hx => by
    have h1 : (a_rb s T).heap[x]? = some H[x] := by show T.heap[x]? = _; rw [hT]; exact Array.getElem?_eq_getElem hx
    rw [Array.getElem?_eq_getElem hx]
    exact b4.kept_nil h1
  have R' : a_Rep s G (wN h (40 + e) 6) t.heap := by
    refine S.rep.grow C.2.2.2.2.2.2.2.2.2.2 hts hold (by decide) (fun _ q => by omega) (fun _ q => by omega) (fun _ => ?_)
    refine ⟨ce, by rw [← hsz]; exact b5, by rw [b6.vm]; rfl, ?_⟩
    rw [a_wN_K, show 40 + e - 40 = e by omega]
    exact b6.cls
  have hsame : s.sameButNew ({ t with vm := s.vm } : State) locs (hX h + 1 - n0) (hU h + 6 - u0) := by
    have e2 : T.setVm s.vm = (a_rb s T).setFrames (T.setVm s.vm).frames := X.same.1
    have h1 : (T.setVm s.vm).sameButNew ({ t with vm := s.vm } : State) [] 1 6 := by
      rw [e2]
      exact a_same_sF b4
    have h2 := X.same.trans h1
    rw [List.append_nil] at h2
    rw [show hX h + 1 - n0 = hX h - n0 + 1 by omega, show hU h + 6 - u0 = hU h - u0 + 6 by omega]
    exact h2
  refine ⟨t, a1, .inr (hX h), wN h (40 + e) 6, locs, hP, trivial, b1, by show Ended t below (.threw (a_rh G (hX h))); rw [← hsz]; exact b2, R'.moved b3.alike, by show n0 ≤ hX h + 1; omega, hx, by show u0 ≤ hU h + 6; omega, hu, b3, hsame, S.2.2.2.2.2⟩
end ATh
