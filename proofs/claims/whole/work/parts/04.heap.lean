/-! rows of the picture: cells read and written -/
theorem a_up_at {α : Type} {f : Nat → Int → α} {a : Nat} {j : Int} {v : α} : a_up f a j v a j = v := by simp [a_up]
theorem a_up_ne {α : Type} {f : Nat → Int → α} {a b : Nat} {i j : Int} {v : α} (h : b ≠ a ∨ i ≠ j) : a_up f a j v b i = f b i := by
  unfold a_up
  rw [if_neg]
  rintro ⟨h1, h2⟩
  rcases h with h | h
  · exact h h1
  · exact h h2
theorem a_rh_own {G : a_G} {k : Nat} (h : 12 ≤ k) : a_rh G k = a_B G + (k - 12) := by
  unfold a_rh a_B
  rw [if_neg (by omega)]
theorem a_rh_ne {G : a_G} (hsa : ∀ k, k < 12 → G.2.1 k < a_B G) {a k : Nat} (ha : 12 ≤ a) (hk : k ≠ a) : a_rh G k ≠ a_rh G a := by
  rw [a_rh_own ha]
  by_cases h : k < 12
  · have := hsa k h
    unfold a_rh
    rw [if_pos h]
    omega
  · rw [a_rh_own (by omega)]
    omega
theorem a_sv0 {ρ : Nat → Nat} {h : Hp} {k : Nat} {j : Int} : a_sv ρ h 0 k j = .int (Int32.ofInt (hI h k j)) := rfl
theorem a_sv1 {ρ : Nat → Nat} {h : Hp} {k : Nat} {j : Int} : a_sv ρ h 1 k j = .long (Int64.ofInt (hL h k j)) := rfl
theorem a_sv2 {ρ : Nat → Nat} {h : Hp} {k : Nat} {j : Int} : a_sv ρ h 2 k j = va_rf ((hR h k j).map ρ) := rfl
theorem a_rd {cell : Cell} {V : Int → Value} {n : Int} (e : ∀ j : Nat, (j : Int) < n → cell.slots[j]? = some (V j)) {j : Int} (hj : okI j) (h0 : 0 ≤ j) (h1 : j < n) : cell.slots[(Int32.ofInt j).toNatClampNeg]? = some (V j) := by
  rw [a_cl hj h0, e j.toNat (by omega), Int.toNat_of_nonneg h0]
/-- a store into one's own cell: what else must hold -/
theorem a_Rep.store {s : State} {G : a_G} {h h' : Hp} {H H' : Heap} {a : Nat} (hsa : ∀ k, k < 12 → G.2.1 k < a_B G) (R : a_Rep s G h H) (eK : hK h' = hK h) (eN : hN h' = hN h) (eX : hX h' = hX h) (ok' : okH h') (ho : 12 ≤ a) (hsz : H'.size = H.size) (hoth : ∀ q, q ≠ a_rh G a → H'[q]? = H[q]?)
    (hsv : ∀ t k j, k ≠ a → a_sv (a_rh G) h' t k j = a_sv (a_rh G) h t k j) (hA : 0 < hK h a → hK h a < 20 → a_crA s G h' H' a) (hO : 20 ≤ hK h a → hK h a < 40 → a_crO G h' H' a) (hE : 40 ≤ hK h a → a_crE s G h' H' a) : a_Rep s G h' H' := by
  obtain ⟨r1, r2, r3, r4⟩ := R
  refine ⟨by rw [hsz, eX]; exact r1, ok', fun q hq => ?_, fun k => ?_⟩
  · rw [hoth q (by rw [a_rh_own ho]; omega)]
    exact r3 q hq
  · by_cases hk : k = a
    · subst hk
      rw [eK]
      exact ⟨hA, hO, hE⟩
    · have hq := hoth _ (a_rh_ne hsa ho hk)
      refine ⟨fun p1 p2 => ?_, fun p1 p2 => ?_, fun p1 => ?_⟩
      · rw [eK] at p1 p2
        obtain ⟨cell, e1, e2, e3, e4, e5, e6⟩ := (r4 k).1 p1 p2
        exact ⟨cell, by rw [hq]; exact e1, by rw [eK]; exact e2, e3, by rw [eN]; exact e4, fun j hj => by rw [eK, hsv _ _ _ hk]; rw [eN] at hj; exact e5 j hj, by rw [eK]; exact e6⟩
      · rw [eK] at p1 p2
        obtain ⟨hc, cell, e1, e2, e3, e4⟩ := (r4 k).2.1 p1 p2
        exact ⟨by rw [eK]; exact hc, cell, by rw [hq]; exact e1, by rw [eK]; exact e2, e3, by rw [eK]; exact fun f hf => by rw [hsv _ _ _ hk]; exact e4 f hf⟩
      · rw [eK] at p1
        obtain ⟨cell, e1, e2, e3⟩ := (r4 k).2.2 p1
        exact ⟨cell, by rw [hq]; exact e1, e2, by rw [eK]; exact e3⟩
theorem a_setSlot_vm (cell : Cell) (i : Nat) (v : Value) : (cell.setSlot i v).vm = cell.vm := rfl
theorem a_setSlot_cls (cell : Cell) (i : Nat) (v : Value) : (cell.setSlot i v).cls = cell.cls := rfl
theorem a_setSlot_size (cell : Cell) (i : Nat) (v : Value) : (cell.setSlot i v).slots.size = cell.slots.size := by
  show (cell.slots.setIfInBounds i v).size = _
  simp
theorem a_setSlot_at (cell : Cell) {i : Nat} (v : Value) (h : i < cell.slots.size) : (cell.setSlot i v).slots[i]? = some v := by
  show (cell.slots.setIfInBounds i v)[i]? = _
  simp [Array.getElem?_setIfInBounds, h]
theorem a_setSlot_ne (cell : Cell) {i j : Nat} (v : Value) (h : i ≠ j) : (cell.setSlot i v).slots[j]? = cell.slots[j]? := by
  show (cell.slots.setIfInBounds i v)[j]? = _
  simp [Array.getElem?_setIfInBounds, h]
/-- an array's place is written -/
theorem a_crA.store {s : State} {G : a_G} {h h' : Hp} {H' : Heap} {a : Nat} {cell : Cell} {j : Int} {v : Value} (eK : hK h' = hK h) (eN : hN h' = hN h) (hj0 : 0 ≤ j) (hj1 : j < hN h a) (e2 : s.isArrayOf cell (a_ft (hK h a))) (e3 : cell.vm ≠ .unknown) (e4 : hN h a ≤ (cell.slots.size : Int) ∧ cell.slots.size.toInt32 = Int32.ofInt (hN h a)) (e5 : ∀ j : Nat, (j : Int) < hN h a → cell.slots[j]? = some (a_sv (a_rh G) h (a_et (hK h a)) a j)) (e6 : 8 ≤ hK h a → va_RA s cell.cls (a_ft (hK h a)))
    (hc : H'[a_rh G a]? = some (cell.setSlot j.toNat v)) (hv : v = a_sv (a_rh G) h' (a_et (hK h a)) a j) (hsv : ∀ i, i ≠ j → a_sv (a_rh G) h' (a_et (hK h a)) a i = a_sv (a_rh G) h (a_et (hK h a)) a i) : a_crA s G h' H' a := by
  refine ⟨_, hc, ?_, by rw [a_setSlot_vm]; exact e3, by rw [a_setSlot_size, eN]; exact e4, fun i hi => ?_, by rw [eK]; exact e6⟩
  · rw [eK]
    exact e2
  · rw [eN] at hi
    rw [eK]
    have e41 := e4.1
    by_cases q : j.toNat = i
    · rw [← q, a_setSlot_at _ _ (by omega), Int.toNat_of_nonneg hj0, hv]
    · rw [a_setSlot_ne _ _ q, e5 i hi, hsv i (by omega)]
theorem okH_wI {h : Hp} {a : Nat} {j x : Int} (ok : okH h) (hx : okI x) (h2 : hK h a = 2 → -128 ≤ x ∧ x < 128) (h3 : hK h a = 3 → 0 ≤ x ∧ x < 2) : okH (wI h a j x) := by
  obtain ⟨o1, o2, o3, o4, o5, o6, o7⟩ := ok
  refine ⟨fun k i => ?_, o2, o3, fun k i hk => ?_, fun k i hk => ?_, o6, o7⟩
  · show okI (a_up (hI h) a j x k i)
    unfold a_up
    split
    · exact hx
    · exact o1 k i
  · show -128 ≤ a_up (hI h) a j x k i ∧ a_up (hI h) a j x k i < 128
    unfold a_up
    split
    · rename_i q
      exact h2 (by rw [← q.1]; exact hk)
    · exact o4 k i hk
  · show 0 ≤ a_up (hI h) a j x k i ∧ a_up (hI h) a j x k i < 2
    unfold a_up
    split
    · rename_i q
      exact h3 (by rw [← q.1]; exact hk)
    · exact o5 k i hk
theorem okH_wL {h : Hp} {a : Nat} {j x : Int} (ok : okH h) (hx : okL x) : okH (wL h a j x) := by
  obtain ⟨o1, o2, o3, o4, o5, o6, o7⟩ := ok
  refine ⟨o1, fun k i => ?_, o3, o4, o5, o6, o7⟩
  show okL (a_up (hL h) a j x k i)
  unfold a_up
  split
  · exact hx
  · exact o2 k i
theorem okH_wR {h : Hp} {a : Nat} {j : Int} {x : Option Nat} (ok : okH h) : okH (wR h a j x) := ok
theorem a_svI {ρ : Nat → Nat} {h : Hp} {a : Nat} {j x : Int} (t k : Nat) (i : Int) (hn : k ≠ a ∨ i ≠ j) : a_sv ρ (wI h a j x) t k i = a_sv ρ h t k i := by
  unfold a_sv
  rw [show hI (wI h a j x) k i = hI h k i from a_up_ne hn, show hL (wI h a j x) = hL h from rfl, show hR (wI h a j x) = hR h from rfl]
theorem a_svL {ρ : Nat → Nat} {h : Hp} {a : Nat} {j x : Int} (t k : Nat) (i : Int) (hn : k ≠ a ∨ i ≠ j) : a_sv ρ (wL h a j x) t k i = a_sv ρ h t k i := by
  unfold a_sv
  rw [show hL (wL h a j x) k i = hL h k i from a_up_ne hn, show hI (wL h a j x) = hI h from rfl, show hR (wL h a j x) = hR h from rfl]
theorem a_svR {ρ : Nat → Nat} {h : Hp} {a : Nat} {j : Int} {x : Option Nat} (t k : Nat) (i : Int) (hn : k ≠ a ∨ i ≠ j) : a_sv ρ (wR h a j x) t k i = a_sv ρ h t k i := by
  unfold a_sv
  rw [show hR (wR h a j x) k i = hR h k i from a_up_ne hn, show hI (wR h a j x) = hI h from rfl, show hL (wR h a j x) = hL h from rfl]
theorem a_St.put {G : a_G} {M : a_M} {s : State} {n0 u0 : Nat} {H H' : Heap} {locs : List Loc} {ls : Array Slot} {lv : List (Nat × AV)} {st st' : List AV} {h h' : Hp} (S : a_St G M s n0 u0 H locs ls lv st h) (eX : hX h' = hX h) (eU : hU h' = hU h) (R' : a_Rep s G h' H') (hs : ∀ v ∈ st', okv v) {q : Loc} (hq : a_B G ≤ q.base) : a_St G M s n0 u0 H' (locs ++ [q]) ls lv st' h' := by
  obtain ⟨h1, h2, h3, h4, h5, h6⟩ := S
  refine ⟨by rw [eX, eU]; exact h1, R', h3, h4, hs, fun y hy => ?_⟩
  rcases List.mem_append.mp hy with hy | hy
  · exact h6 y hy
  · rw [List.mem_singleton.mp hy]
    exact hq
def a_Fd (own : String) (i c f t : Nat) : Prop := c < 11 ∧ f < a_F c ∧ a_fk (a_t c f) = t ∧ Cond.fieldLink own i (a_T c f).1 (a_T c f).2.1 (a_T c f).2.2.1 ∈ lw_tbl
theorem a_hts {G : a_G} {s : State} (h : a_Wd G s) (c : Nat) (hc : c < 11) (args : Array Value) : ∀ w ∈ u_ws (a_cn c) (a_T c) (a_F c), w.before args s = true := by
  intro w hw
  refine h.at (a_in c hc w hw) ?_ args
  obtain ⟨k, -, rfl⟩ := List.mem_map.mp hw
  unfold u_lay
  split <;> rfl
section AH
variable {l : Launch} {G : a_G} {M : a_M} {P : a_R → Hp → Prop} {pc : Nat} {lv lv' : List (Nat × AV)} {st : List AV} {h : Hp}
theorem aw_alen {a : Nat} (hd : decode (a_cc M) pc = .ok (.arraylength, 1)) (hk : 0 < hK h a ∧ hK h a < 20) (k : AW l G M P (pc + 1) lv (vi (hN h a) :: st) h) : AW l G M P pc lv (vr a :: st) h := by
  intro p e s m args below meth c n0 u0 H locs ls C S
  have hs := S.ok
  obtain ⟨cell, e1, e2, e3, e4, e5, e6⟩ := (S.rep.2.2.2 a).1 hk.1 hk.2
  have hr := S.rep.2.1.2.2.1 a
  refine W.alen (n := Int32.ofInt (hN h a)) C.1 C.2.1 e1 e2 ?_ rfl rfl hd (k p e s m args below meth c n0 u0 H locs ls C (S.st (okc ⟨by omega, by omega⟩ (okt hs))))
  exact e4.2
theorem aw_iald {a : Nat} {j : Int} (hd : decode (a_cc M) pc = .ok (.iaload, 1)) (hk : hK h a = 1) (h0 : 0 ≤ j) (h1 : j < hN h a) (k : AW l G M P (pc + 1) lv (vi (hI h a j) :: st) h) : AW l G M P pc lv (vi j :: vr a :: st) h := by
  intro p e s m args below meth c n0 u0 H locs ls C S
  have hs := S.ok
  obtain ⟨cell, e1, e2, e3, e4, e5, e6⟩ := (S.rep.2.2.2 a).1 (by omega) (by omega)
  have e41 := e4.1
  rw [hk] at e2 e5
  refine W.iald (v := .int (Int32.ofInt (hI h a j))) C.1 C.2.1 e1 e2 e3 (a_vin (ok1 hs) h0 (by omega)) ?_ rfl rfl hd (k p e s m args below meth c n0 u0 H locs ls C (S.st (okc (S.rep.2.1.1 a j) (okt (okt hs)))))
  exact a_rd e5 (ok1 hs) h0 (by omega)
theorem aw_bald {a : Nat} {j : Int} (hd : decode (a_cc M) pc = .ok (.baload, 1)) (hk : hK h a = 2) (h0 : 0 ≤ j) (h1 : j < hN h a) (k : AW l G M P (pc + 1) lv (vi (hI h a j) :: st) h) : AW l G M P pc lv (vi j :: vr a :: st) h := by
  intro p e s m args below meth c n0 u0 H locs ls C S
  have hs := S.ok
  obtain ⟨cell, e1, e2, e3, e4, e5, e6⟩ := (S.rep.2.2.2 a).1 (by omega) (by omega)
  have e41 := e4.1
  rw [hk] at e2 e5
  refine W.bald (v := .int (Int32.ofInt (hI h a j))) C.1 C.2.1 e1 e2 e3 (a_vin (ok1 hs) h0 (by omega)) ?_ rfl rfl hd (k p e s m args below meth c n0 u0 H locs ls C (S.st (okc (S.rep.2.1.1 a j) (okt (okt hs)))))
  exact a_rd e5 (ok1 hs) h0 (by omega)
theorem aw_zald {a : Nat} {j : Int} (hd : decode (a_cc M) pc = .ok (.baload, 1)) (hk : hK h a = 3) (h0 : 0 ≤ j) (h1 : j < hN h a) (k : AW l G M P (pc + 1) lv (vi (hI h a j) :: st) h) : AW l G M P pc lv (vi j :: vr a :: st) h := by
  intro p e s m args below meth c n0 u0 H locs ls C S
  have hs := S.ok
  obtain ⟨cell, e1, e2, e3, e4, e5, e6⟩ := (S.rep.2.2.2 a).1 (by omega) (by omega)
  have e41 := e4.1
  rw [hk] at e2 e5
  refine W.zald (v := .int (Int32.ofInt (hI h a j))) C.1 C.2.1 e1 e2 e3 (a_vin (ok1 hs) h0 (by omega)) ?_ rfl rfl hd (k p e s m args below meth c n0 u0 H locs ls C (S.st (okc (S.rep.2.1.1 a j) (okt (okt hs)))))
  exact a_rd e5 (ok1 hs) h0 (by omega)
theorem aw_lald {a : Nat} {j : Int} (hd : decode (a_cc M) pc = .ok (.laload, 1)) (hk : hK h a = 4) (h0 : 0 ≤ j) (h1 : j < hN h a) (k : AW l G M P (pc + 1) lv (vl (hL h a j) :: st) h) : AW l G M P pc lv (vi j :: vr a :: st) h := by
  intro p e s m args below meth c n0 u0 H locs ls C S
  have hs := S.ok
  obtain ⟨cell, e1, e2, e3, e4, e5, e6⟩ := (S.rep.2.2.2 a).1 (by omega) (by omega)
  have e41 := e4.1
  rw [hk] at e2 e5
  refine W.lald (v := .long (Int64.ofInt (hL h a j))) C.1 C.2.1 e1 e2 e3 (a_vin (ok1 hs) h0 (by omega)) ?_ rfl rfl hd (k p e s m args below meth c n0 u0 H locs ls C (S.st (okc (S.rep.2.1.2.1 a j) (okt (okt hs)))))
  exact a_rd e5 (ok1 hs) h0 (by omega)
theorem aw_aald {a b : Nat} {j : Int} (hd : decode (a_cc M) pc = .ok (.aaload, 1)) (hk : 5 ≤ hK h a ∧ hK h a < 10) (h0 : 0 ≤ j) (h1 : j < hN h a) (hb : hR h a j = some b) (k : AW l G M P (pc + 1) lv (vr b :: st) h) : AW l G M P pc lv (vi j :: vr a :: st) h := by
  intro p e s m args below meth c n0 u0 H locs ls C S
  have hs := S.ok
  obtain ⟨cell, e1, e2, e3, e4, e5, e6⟩ := (S.rep.2.2.2 a).1 (by omega) (by omega)
  have e41 := e4.1
  have ht : a_et (hK h a) = 2 := by
    unfold a_et
    rw [if_neg (by omega), if_neg (by omega)]
  rw [ht] at e5
  have hr : (a_ft (hK h a)).isReference = true := by
    rcases (show hK h a = 5 ∨ hK h a = 6 ∨ hK h a = 7 ∨ hK h a = 8 ∨ hK h a = 9 by omega) with q | q | q | q | q <;> rw [q] <;> rfl
  refine W.aald (v := .ref (a_rh G b)) C.1 C.2.1 e1 e2 hr e3 (a_vin (ok1 hs) h0 (by omega)) ?_ rfl rfl hd (k p e s m args below meth c n0 u0 H locs ls C (S.st (okc trivial (okt (okt hs)))))
  rw [a_rd e5 (ok1 hs) h0 (by omega), a_sv2, hb]
  rfl
theorem aw_iast {a : Nat} {j x : Int} (hd : decode (a_cc M) pc = .ok (.iastore, 1)) (hk : hK h a = 1) (ho : 12 ≤ a) (h0 : 0 ≤ j) (h1 : j < hN h a) (k : AW l G M P (pc + 1) lv st (wI h a j x)) : AW l G M P pc lv (vi x :: vi j :: vr a :: st) h := by
  intro p e s m args below meth c n0 u0 H locs ls C S
  have hs := S.ok
  have hj : okI j := ok2 hs
  obtain ⟨cell, e1, e2, e3, e4, e5, e6⟩ := (S.rep.2.2.2 a).1 (by omega) (by omega)
  have e41 := e4.1
  refine W.iast C.1 C.2.1 e1 (by rw [hk] at e2; exact e2) e3 (a_vin hj h0 (by omega)) rfl rfl hd fun H' q1 q2 q3 => ?_
  rw [a_cl hj h0] at q1
  have R' : a_Rep s G (wI h a j x) H' := by
    refine S.rep.store (h' := wI h a j x) C.2.2.2.2.2.2.2.2.2.2 rfl rfl rfl (okH_wI S.rep.2.1 (ok1 hs) (fun q => by omega) (fun q => by omega)) ho q2 q3 (fun t k i hn => a_svI t k i (Or.inl hn)) (fun _ _ => ?_) (fun q => by omega) (fun q => by omega)
    refine a_crA.store (h := h) rfl rfl h0 h1 e2 e3 e4 e5 e6 q1 ?_ (fun i hi => a_svI _ _ i (Or.inr hi))
    rw [hk]
    show _ = Value.int (Int32.ofInt (a_up (hI h) a j x a j))
    rw [a_up_at]
  refine k p e s m args below meth c n0 u0 H' _ ls C (S.put (h' := wI h a j x) rfl rfl R' (okt (okt (okt hs))) ?_)
  show a_B G ≤ a_rh G a
  rw [a_rh_own ho]
  omega
theorem aw_bast {a : Nat} {j x : Int} (hd : decode (a_cc M) pc = .ok (.bastore, 1)) (hk : hK h a = 2) (ho : 12 ≤ a) (h0 : 0 ≤ j) (h1 : j < hN h a) (k : AW l G M P (pc + 1) lv st (wI h a j (a_w8 x))) : AW l G M P pc lv (vi x :: vi j :: vr a :: st) h := by
  intro p e s m args below meth c n0 u0 H locs ls C S
  have hs := S.ok
  have hj : okI j := ok2 hs
  obtain ⟨cell, e1, e2, e3, e4, e5, e6⟩ := (S.rep.2.2.2 a).1 (by omega) (by omega)
  have e41 := e4.1
  refine W.bast C.1 C.2.1 e1 (by rw [hk] at e2; exact e2) e3 (a_vin hj h0 (by omega)) rfl rfl hd fun H' q1 q2 q3 => ?_
  rw [a_cl hj h0] at q1
  have R' : a_Rep s G (wI h a j (a_w8 x)) H' := by
    refine S.rep.store (h' := wI h a j (a_w8 x)) C.2.2.2.2.2.2.2.2.2.2 rfl rfl rfl (okH_wI S.rep.2.1 (a_w8ok x) (fun q => by unfold a_w8; omega) (fun q => by omega)) ho q2 q3 (fun t k i hn => a_svI t k i (Or.inl hn)) (fun _ _ => ?_) (fun q => by omega) (fun q => by omega)
    refine a_crA.store (h := h) rfl rfl h0 h1 e2 e3 e4 e5 e6 q1 ?_ (fun i hi => a_svI _ _ i (Or.inr hi))
    rw [hk]
    show _ = Value.int (Int32.ofInt (a_up (hI h) a j (a_w8 x) a j))
    rw [a_up_at, ← a_i2b (ok1 hs)]
    rfl
  refine k p e s m args below meth c n0 u0 H' _ ls C (S.put (h' := wI h a j (a_w8 x)) rfl rfl R' (okt (okt (okt hs))) ?_)
  show a_B G ≤ a_rh G a
  rw [a_rh_own ho]
  omega
theorem aw_zast {a : Nat} {j x : Int} (hd : decode (a_cc M) pc = .ok (.bastore, 1)) (hk : hK h a = 3) (ho : 12 ≤ a) (h0 : 0 ≤ j) (h1 : j < hN h a) (hx : 0 ≤ x ∧ x < 2) (k : AW l G M P (pc + 1) lv st (wI h a j x)) : AW l G M P pc lv (vi x :: vi j :: vr a :: st) h := by
  intro p e s m args below meth c n0 u0 H locs ls C S
  have hs := S.ok
  have hj : okI j := ok2 hs
  obtain ⟨cell, e1, e2, e3, e4, e5, e6⟩ := (S.rep.2.2.2 a).1 (by omega) (by omega)
  have e41 := e4.1
  refine W.zast C.1 C.2.1 e1 (by rw [hk] at e2; exact e2) e3 (a_vin hj h0 (by omega)) rfl rfl hd fun H' q1 q2 q3 => ?_
  rw [a_cl hj h0] at q1
  have R' : a_Rep s G (wI h a j x) H' := by
    refine S.rep.store (h' := wI h a j x) C.2.2.2.2.2.2.2.2.2.2 rfl rfl rfl (okH_wI S.rep.2.1 (ok1 hs) (fun q => by omega) (fun q => hx)) ho q2 q3 (fun t k i hn => a_svI t k i (Or.inl hn)) (fun _ _ => ?_) (fun q => by omega) (fun q => by omega)
    refine a_crA.store (h := h) rfl rfl h0 h1 e2 e3 e4 e5 e6 q1 ?_ (fun i hi => a_svI _ _ i (Or.inr hi))
    rw [hk]
    show _ = Value.int (Int32.ofInt (a_up (hI h) a j x a j))
    rw [a_up_at]
    rcases (show x = 0 ∨ x = 1 by omega) with q | q <;> rw [q] <;> rfl
  refine k p e s m args below meth c n0 u0 H' _ ls C (S.put (h' := wI h a j x) rfl rfl R' (okt (okt (okt hs))) ?_)
  show a_B G ≤ a_rh G a
  rw [a_rh_own ho]
  omega
theorem aw_last {a : Nat} {j x : Int} (hd : decode (a_cc M) pc = .ok (.lastore, 1)) (hk : hK h a = 4) (ho : 12 ≤ a) (h0 : 0 ≤ j) (h1 : j < hN h a) (k : AW l G M P (pc + 1) lv st (wL h a j x)) : AW l G M P pc lv (vl x :: vi j :: vr a :: st) h := by
  intro p e s m args below meth c n0 u0 H locs ls C S
  have hs := S.ok
  have hj : okI j := ok2 hs
  obtain ⟨cell, e1, e2, e3, e4, e5, e6⟩ := (S.rep.2.2.2 a).1 (by omega) (by omega)
  have e41 := e4.1
  refine W.last C.1 C.2.1 e1 (by rw [hk] at e2; exact e2) e3 (a_vin hj h0 (by omega)) rfl rfl hd fun H' q1 q2 q3 => ?_
  rw [a_cl hj h0] at q1
  have R' : a_Rep s G (wL h a j x) H' := by
    refine S.rep.store (h' := wL h a j x) C.2.2.2.2.2.2.2.2.2.2 rfl rfl rfl (okH_wL S.rep.2.1 (ok1 hs)) ho q2 q3 (fun t k i hn => a_svL t k i (Or.inl hn)) (fun _ _ => ?_) (fun q => by omega) (fun q => by omega)
    refine a_crA.store (h := h) rfl rfl h0 h1 e2 e3 e4 e5 e6 q1 ?_ (fun i hi => a_svL _ _ i (Or.inr hi))
    rw [hk]
    show _ = Value.long (Int64.ofInt (a_up (hL h) a j x a j))
    rw [a_up_at]
  refine k p e s m args below meth c n0 u0 H' _ ls C (S.put (h' := wL h a j x) rfl rfl R' (okt (okt (okt hs))) ?_)
  show a_B G ≤ a_rh G a
  rw [a_rh_own ho]
  omega
theorem aw_getI {a i ci f : Nat} (hd : decode (a_cc M) pc = .ok (.getfield i, 3)) (F : a_Fd (a_ow M) i ci f 0) (hk : hK h a = 20 + ci) (k : AW l G M P (pc + 3) lv (vi (hI h a f) :: st) h) : AW l G M P pc lv (vr a :: st) h := by
  intro p e s m args below meth c n0 u0 H locs ls C S
  have hs := S.ok
  obtain ⟨hc, hf, hty, hw⟩ := F
  obtain ⟨-, cell, e1, e2, e3, e4⟩ := (S.rep.2.2.2 a).2.1 (by omega) (by omega)
  rw [show hK h a - 20 = ci by omega] at e2 e4
  obtain ⟨hS, hfc, kC, hkC, hkind⟩ := C.2.2.2.2.2.2.1.1 ci _ (a_cls_at hc)
  obtain ⟨cf, kf, fi, fd, hi, hsl⟩ := hS f hf
  have e5 := e4 f hf
  rw [hty] at e5
  have hst := (u_facts (args := args) hfc hkC (u_lays (a_hts C.2.2.2.2.2.1 ci hc args) (fun _ q => q) hf) hi).1
  refine W.getf (v := .int (Int32.ofInt (hI h a f))) C.1 C.2.1 C.2.2.2.2.1 (C.2.2.2.2.2.1.at hw rfl args) hi hst e1 (by rw [e3]; exact fun q => by cases q) ?_ rfl rfl hd (k p e s m args below meth c n0 u0 H locs ls C (S.st (okc (S.rep.2.1.1 a f) (okt hs))))
  rw [hsl, e5]
  rfl
theorem aw_getL {a i ci f : Nat} (hd : decode (a_cc M) pc = .ok (.getfield i, 3)) (F : a_Fd (a_ow M) i ci f 1) (hk : hK h a = 20 + ci) (k : AW l G M P (pc + 3) lv (vl (hL h a f) :: st) h) : AW l G M P pc lv (vr a :: st) h := by
  intro p e s m args below meth c n0 u0 H locs ls C S
  have hs := S.ok
  obtain ⟨hc, hf, hty, hw⟩ := F
  obtain ⟨-, cell, e1, e2, e3, e4⟩ := (S.rep.2.2.2 a).2.1 (by omega) (by omega)
  rw [show hK h a - 20 = ci by omega] at e2 e4
  obtain ⟨hS, hfc, kC, hkC, hkind⟩ := C.2.2.2.2.2.2.1.1 ci _ (a_cls_at hc)
  obtain ⟨cf, kf, fi, fd, hi, hsl⟩ := hS f hf
  have e5 := e4 f hf
  rw [hty] at e5
  have hst := (u_facts (args := args) hfc hkC (u_lays (a_hts C.2.2.2.2.2.1 ci hc args) (fun _ q => q) hf) hi).1
  refine W.getf (v := .long (Int64.ofInt (hL h a f))) C.1 C.2.1 C.2.2.2.2.1 (C.2.2.2.2.2.1.at hw rfl args) hi hst e1 (by rw [e3]; exact fun q => by cases q) ?_ rfl rfl hd (k p e s m args below meth c n0 u0 H locs ls C (S.st (okc (S.rep.2.1.2.1 a f) (okt hs))))
  rw [hsl, e5]
  rfl
theorem aw_getR {a b i ci f : Nat} (hd : decode (a_cc M) pc = .ok (.getfield i, 3)) (F : a_Fd (a_ow M) i ci f 2) (hk : hK h a = 20 + ci) (hb : hR h a f = some b) (k : AW l G M P (pc + 3) lv (vr b :: st) h) : AW l G M P pc lv (vr a :: st) h := by
  intro p e s m args below meth c n0 u0 H locs ls C S
  have hs := S.ok
  obtain ⟨hc, hf, hty, hw⟩ := F
  obtain ⟨-, cell, e1, e2, e3, e4⟩ := (S.rep.2.2.2 a).2.1 (by omega) (by omega)
  rw [show hK h a - 20 = ci by omega] at e2 e4
  obtain ⟨hS, hfc, kC, hkC, hkind⟩ := C.2.2.2.2.2.2.1.1 ci _ (a_cls_at hc)
  obtain ⟨cf, kf, fi, fd, hi, hsl⟩ := hS f hf
  have e5 := e4 f hf
  rw [hty] at e5
  have hst := (u_facts (args := args) hfc hkC (u_lays (a_hts C.2.2.2.2.2.1 ci hc args) (fun _ q => q) hf) hi).1
  refine W.getf (v := .ref (a_rh G b)) C.1 C.2.1 C.2.2.2.2.1 (C.2.2.2.2.2.1.at hw rfl args) hi hst e1 (by rw [e3]; exact fun q => by cases q) ?_ rfl rfl hd (k p e s m args below meth c n0 u0 H locs ls C (S.st (okc (trivial) (okt hs))))
  rw [hsl, e5]
  rw [a_sv2, hb]
  rfl
theorem aw_putI {a i ci f : Nat} {x : Int} (hd : decode (a_cc M) pc = .ok (.putfield i, 3)) (F : a_Fd (a_ow M) i ci f 0) (hk : hK h a = 20 + ci) (ho : 12 ≤ a) (hfin : (a_T ci f).2.2.2 = false) (k : AW l G M P (pc + 3) lv st (wI h a f x)) : AW l G M P pc lv (vi x :: vr a :: st) h := by
  intro p e s m args below meth c n0 u0 H locs ls C S
  have hs := S.ok
  obtain ⟨hc, hf, hty, hw⟩ := F
  obtain ⟨-, cell, e1, e2, e3, e4⟩ := (S.rep.2.2.2 a).2.1 (by omega) (by omega)
  rw [show hK h a - 20 = ci by omega] at e2 e4
  have hts := a_hts C.2.2.2.2.2.1 ci hc args
  have hap := va_apart (own := a_ow M) hts (fun _ q => q) (a_t ci) (a_ty ci hc) (a_nm ci hc) C.2.2.2.2.2.2.1 (a_cls_at hc)
  obtain ⟨hS, hfc, kC, hkC, hkind⟩ := C.2.2.2.2.2.2.1.1 ci _ (a_cls_at hc)
  obtain ⟨cf, kf, fi, fd, hi, hsl⟩ := hS f hf
  have hlay := hts _ (u_in_lay hf)
  unfold u_lay at hlay
  have hst := (u_facts (args := args) hfc hkC (u_lays hts (fun _ q => q) hf) hi).1
  have hnar : narrow (a_t ci f) (.int (Int32.ofInt x)) = (.int (Int32.ofInt x)) ∧ fits (a_t ci f) (.int (Int32.ofInt x)) = true := by
    revert hty
    cases a_t ci f <;> intro hty <;> first | exact ⟨rfl, rfl⟩ | (cases hty; done)
  rw [if_neg (by rw [hfin]; decide)] at hlay
  have h6 := u_store hfc hkC hkind hlay hi (a_ty ci hc f hf) hnar.1 hnar.2
  refine W.putK C.1 C.2.1 (f := fd) ⟨C.2.2.2.2.1, C.2.2.2.2.2.1.at hw rfl args, ⟨_, _, _, hi⟩, hst⟩ (by rw [e2]; exact h6) e1 e3 (by rw [hsl]; exact k2_hasslot (e4 f hf)) rfl rfl hd fun H' q1 q2 q3 => ?_
  rw [hsl] at q1
  have R' : a_Rep s G (wI h a f x) H' := by
    refine S.rep.store (h' := wI h a f x) C.2.2.2.2.2.2.2.2.2.2 rfl rfl rfl (okH_wI S.rep.2.1 (ok1 hs) (fun q => by omega) (fun q => by omega)) ho q2 q3 (fun t k i hn => a_svI t k i (Or.inl hn)) (fun _ q => by omega) (fun _ _ => ?_) (fun q => by omega)
    refine ⟨by show hK h a - 20 < 11; omega, _, q1, ?_, by rw [a_setSlot_vm]; exact e3, fun f' hf' => ?_⟩
    · show (cell.setSlot _ _).cls = (a_D G).1 (hK h a - 20)
      rw [show hK h a - 20 = ci by omega]
      exact e2
    · have hf2 : f' < a_F ci := by
        have q : f' < a_F (hK h a - 20) := hf'
        rwa [show hK h a - 20 = ci by omega] at q
      show (cell.setSlot _ _).slots[(a_D G).2 (hK h a - 20) f']? = some (a_sv (a_rh G) _ (a_fk (a_t (hK h a - 20) f')) a f')
      rw [show hK h a - 20 = ci by omega]
      by_cases q : f' = f
      · subst q
        rw [a_setSlot_at _ _ (k2_hasslot (e4 f' hf2)), hty]
        show _ = some (Value.int (Int32.ofInt (a_up (hI h) a f' x a f')))
        rw [a_up_at]
        rfl
      · rw [a_setSlot_ne _ _ (hap f f' hf hf2 (fun z => q z.symm)), e4 f' hf2, a_svI _ _ _ (Or.inr (by omega))]
  refine k p e s m args below meth c n0 u0 H' _ ls C (S.put (h' := wI h a f x) rfl rfl R' (okt (okt hs)) ?_)
  show a_B G ≤ a_rh G a
  rw [a_rh_own ho]
  omega
theorem aw_putL {a i ci f : Nat} {x : Int} (hd : decode (a_cc M) pc = .ok (.putfield i, 3)) (F : a_Fd (a_ow M) i ci f 1) (hk : hK h a = 20 + ci) (ho : 12 ≤ a) (hfin : (a_T ci f).2.2.2 = false) (k : AW l G M P (pc + 3) lv st (wL h a f x)) : AW l G M P pc lv (vl x :: vr a :: st) h := by
  intro p e s m args below meth c n0 u0 H locs ls C S
  have hs := S.ok
  obtain ⟨hc, hf, hty, hw⟩ := F
  obtain ⟨-, cell, e1, e2, e3, e4⟩ := (S.rep.2.2.2 a).2.1 (by omega) (by omega)
  rw [show hK h a - 20 = ci by omega] at e2 e4
  have hts := a_hts C.2.2.2.2.2.1 ci hc args
  have hap := va_apart (own := a_ow M) hts (fun _ q => q) (a_t ci) (a_ty ci hc) (a_nm ci hc) C.2.2.2.2.2.2.1 (a_cls_at hc)
  obtain ⟨hS, hfc, kC, hkC, hkind⟩ := C.2.2.2.2.2.2.1.1 ci _ (a_cls_at hc)
  obtain ⟨cf, kf, fi, fd, hi, hsl⟩ := hS f hf
  have hlay := hts _ (u_in_lay hf)
  unfold u_lay at hlay
  have hst := (u_facts (args := args) hfc hkC (u_lays hts (fun _ q => q) hf) hi).1
  have hnar : narrow (a_t ci f) (.long (Int64.ofInt x)) = (.long (Int64.ofInt x)) ∧ fits (a_t ci f) (.long (Int64.ofInt x)) = true := by
    revert hty
    cases a_t ci f <;> intro hty <;> first | exact ⟨rfl, rfl⟩ | (cases hty; done)
  rw [if_neg (by rw [hfin]; decide)] at hlay
  have h6 := u_store hfc hkC hkind hlay hi (a_ty ci hc f hf) hnar.1 hnar.2
  refine W.putK C.1 C.2.1 (f := fd) ⟨C.2.2.2.2.1, C.2.2.2.2.2.1.at hw rfl args, ⟨_, _, _, hi⟩, hst⟩ (by rw [e2]; exact h6) e1 e3 (by rw [hsl]; exact k2_hasslot (e4 f hf)) rfl rfl hd fun H' q1 q2 q3 => ?_
  rw [hsl] at q1
  have R' : a_Rep s G (wL h a f x) H' := by
    refine S.rep.store (h' := wL h a f x) C.2.2.2.2.2.2.2.2.2.2 rfl rfl rfl (okH_wL S.rep.2.1 (ok1 hs)) ho q2 q3 (fun t k i hn => a_svL t k i (Or.inl hn)) (fun _ q => by omega) (fun _ _ => ?_) (fun q => by omega)
    refine ⟨by show hK h a - 20 < 11; omega, _, q1, ?_, by rw [a_setSlot_vm]; exact e3, fun f' hf' => ?_⟩
    · show (cell.setSlot _ _).cls = (a_D G).1 (hK h a - 20)
      rw [show hK h a - 20 = ci by omega]
      exact e2
    · have hf2 : f' < a_F ci := by
        have q : f' < a_F (hK h a - 20) := hf'
        rwa [show hK h a - 20 = ci by omega] at q
      show (cell.setSlot _ _).slots[(a_D G).2 (hK h a - 20) f']? = some (a_sv (a_rh G) _ (a_fk (a_t (hK h a - 20) f')) a f')
      rw [show hK h a - 20 = ci by omega]
      by_cases q : f' = f
      · subst q
        rw [a_setSlot_at _ _ (k2_hasslot (e4 f' hf2)), hty]
        show _ = some (Value.long (Int64.ofInt (a_up (hL h) a f' x a f')))
        rw [a_up_at]
        rfl
      · rw [a_setSlot_ne _ _ (hap f f' hf hf2 (fun z => q z.symm)), e4 f' hf2, a_svL _ _ _ (Or.inr (by omega))]
  refine k p e s m args below meth c n0 u0 H' _ ls C (S.put (h' := wL h a f x) rfl rfl R' (okt (okt hs)) ?_)
  show a_B G ≤ a_rh G a
  rw [a_rh_own ho]
  omega
theorem aw_putR {a i ci f : Nat} {x : Nat} (hd : decode (a_cc M) pc = .ok (.putfield i, 3)) (F : a_Fd (a_ow M) i ci f 2) (hk : hK h a = 20 + ci) (ho : 12 ≤ a) (hfin : (a_T ci f).2.2.2 = false) (k : AW l G M P (pc + 3) lv st (wR h a f (some x))) : AW l G M P pc lv (vr x :: vr a :: st) h := by
  intro p e s m args below meth c n0 u0 H locs ls C S
  have hs := S.ok
  obtain ⟨hc, hf, hty, hw⟩ := F
  obtain ⟨-, cell, e1, e2, e3, e4⟩ := (S.rep.2.2.2 a).2.1 (by omega) (by omega)
  rw [show hK h a - 20 = ci by omega] at e2 e4
  have hts := a_hts C.2.2.2.2.2.1 ci hc args
  have hap := va_apart (own := a_ow M) hts (fun _ q => q) (a_t ci) (a_ty ci hc) (a_nm ci hc) C.2.2.2.2.2.2.1 (a_cls_at hc)
  obtain ⟨hS, hfc, kC, hkC, hkind⟩ := C.2.2.2.2.2.2.1.1 ci _ (a_cls_at hc)
  obtain ⟨cf, kf, fi, fd, hi, hsl⟩ := hS f hf
  have hlay := hts _ (u_in_lay hf)
  unfold u_lay at hlay
  have hst := (u_facts (args := args) hfc hkC (u_lays hts (fun _ q => q) hf) hi).1
  have hnar : narrow (a_t ci f) (.ref (a_rh G x)) = (.ref (a_rh G x)) ∧ fits (a_t ci f) (.ref (a_rh G x)) = true := by
    revert hty
    cases a_t ci f <;> intro hty <;> first | exact ⟨rfl, rfl⟩ | (cases hty; done)
  rw [if_neg (by rw [hfin]; decide)] at hlay
  have h6 := u_store hfc hkC hkind hlay hi (a_ty ci hc f hf) hnar.1 hnar.2
  refine W.putK C.1 C.2.1 (f := fd) ⟨C.2.2.2.2.1, C.2.2.2.2.2.1.at hw rfl args, ⟨_, _, _, hi⟩, hst⟩ (by rw [e2]; exact h6) e1 e3 (by rw [hsl]; exact k2_hasslot (e4 f hf)) rfl rfl hd fun H' q1 q2 q3 => ?_
  rw [hsl] at q1
  have R' : a_Rep s G (wR h a f (some x)) H' := by
    refine S.rep.store (h' := wR h a f (some x)) C.2.2.2.2.2.2.2.2.2.2 rfl rfl rfl (okH_wR S.rep.2.1) ho q2 q3 (fun t k i hn => a_svR t k i (Or.inl hn)) (fun _ q => by omega) (fun _ _ => ?_) (fun q => by omega)
    refine ⟨by show hK h a - 20 < 11; omega, _, q1, ?_, by rw [a_setSlot_vm]; exact e3, fun f' hf' => ?_⟩
    · show (cell.setSlot _ _).cls = (a_D G).1 (hK h a - 20)
      rw [show hK h a - 20 = ci by omega]
      exact e2
    · have hf2 : f' < a_F ci := by
        have q : f' < a_F (hK h a - 20) := hf'
        rwa [show hK h a - 20 = ci by omega] at q
      show (cell.setSlot _ _).slots[(a_D G).2 (hK h a - 20) f']? = some (a_sv (a_rh G) _ (a_fk (a_t (hK h a - 20) f')) a f')
      rw [show hK h a - 20 = ci by omega]
      by_cases q : f' = f
      · subst q
        rw [a_setSlot_at _ _ (k2_hasslot (e4 f' hf2)), hty]
        show _ = some (va_rf ((a_up (hR h) a f' (some x) a f').map (a_rh G)))
        rw [a_up_at]
        rfl
      · rw [a_setSlot_ne _ _ (hap f f' hf hf2 (fun z => q z.symm)), e4 f' hf2, a_svR _ _ _ (Or.inr (by omega))]
  refine k p e s m args below meth c n0 u0 H' _ ls C (S.put (h' := wR h a f (some x)) rfl rfl R' (okt (okt hs)) ?_)
  show a_B G ≤ a_rh G a
  rw [a_rh_own ho]
  omega
theorem aw_putIF {a i ci f : Nat} {x : Int} (hd : decode (a_cc M) pc = .ok (.putfield i, 3)) (F : a_Fd (a_ow M) i ci f 0) (hk : hK h a = 20 + ci) (ho : 12 ≤ a) (hfin : (a_T ci f).2.2.2 = true) (hdecl : (a_T ci f).1 = a_ow M) (hini : (a_y M).name = "<init>") (k : AW l G M P (pc + 3) lv st (wI h a f x)) : AW l G M P pc lv (vi x :: vr a :: st) h := by
  intro p e s m args below meth c n0 u0 H locs ls C S
  have hs := S.ok
  obtain ⟨hc, hf, hty, hw⟩ := F
  obtain ⟨-, cell, e1, e2, e3, e4⟩ := (S.rep.2.2.2 a).2.1 (by omega) (by omega)
  rw [show hK h a - 20 = ci by omega] at e2 e4
  have hts := a_hts C.2.2.2.2.2.1 ci hc args
  have hap := va_apart (own := a_ow M) hts (fun _ q => q) (a_t ci) (a_ty ci hc) (a_nm ci hc) C.2.2.2.2.2.2.1 (a_cls_at hc)
  obtain ⟨hS, hfc, kC, hkC, hkind⟩ := C.2.2.2.2.2.2.1.1 ci _ (a_cls_at hc)
  obtain ⟨cf, kf, fi, fd, hi, hsl⟩ := hS f hf
  have hlay := hts _ (u_in_lay hf)
  unfold u_lay at hlay
  have hst := (u_facts (args := args) hfc hkC (u_lays hts (fun _ q => q) hf) hi).1
  have hnar : narrow (a_t ci f) (.int (Int32.ofInt x)) = (.int (Int32.ofInt x)) ∧ fits (a_t ci f) (.int (Int32.ofInt x)) = true := by
    revert hty
    cases a_t ci f <;> intro hty <;> first | exact ⟨rfl, rfl⟩ | (cases hty; done)
  rw [if_pos hfin] at hlay
  have hcf : m.cls = cf := by
    obtain ⟨_, _, c', _, _, _, -, -, hf', -, -, -, hown2, -⟩ := Cond.laysFinal_spec hlay
    have e9 : c' = cf := by have := hi.symm.trans hf'; simp at this; exact this.1.symm
    rw [hdecl] at hown2
    rw [← e9]; exact Option.some.inj (C.2.2.2.2.1.symm.trans hown2)
  have h6 := u_fits hfc hkC hkind (Or.inr hlay) hi (a_ty ci hc f hf) hnar.1 hnar.2
  refine W.putFinK C.1 C.2.1 C.2.2.2.2.1 (C.2.2.2.2.2.1.at hw rfl args) hi hst hcf (C.2.2.2.2.2.2.2.2.2.1.trans hini) (by rw [e2]; exact h6) e1 e3 (by rw [hsl]; exact k2_hasslot (e4 f hf)) rfl rfl hd fun H' q1 q2 q3 => ?_
  rw [hsl] at q1
  have R' : a_Rep s G (wI h a f x) H' := by
    refine S.rep.store (h' := wI h a f x) C.2.2.2.2.2.2.2.2.2.2 rfl rfl rfl (okH_wI S.rep.2.1 (ok1 hs) (fun q => by omega) (fun q => by omega)) ho q2 q3 (fun t k i hn => a_svI t k i (Or.inl hn)) (fun _ q => by omega) (fun _ _ => ?_) (fun q => by omega)
    refine ⟨by show hK h a - 20 < 11; omega, _, q1, ?_, by rw [a_setSlot_vm]; exact e3, fun f' hf' => ?_⟩
    · show (cell.setSlot _ _).cls = (a_D G).1 (hK h a - 20)
      rw [show hK h a - 20 = ci by omega]
      exact e2
    · have hf2 : f' < a_F ci := by
        have q : f' < a_F (hK h a - 20) := hf'
        rwa [show hK h a - 20 = ci by omega] at q
      show (cell.setSlot _ _).slots[(a_D G).2 (hK h a - 20) f']? = some (a_sv (a_rh G) _ (a_fk (a_t (hK h a - 20) f')) a f')
      rw [show hK h a - 20 = ci by omega]
      by_cases q : f' = f
      · subst q
        rw [a_setSlot_at _ _ (k2_hasslot (e4 f' hf2)), hty]
        show _ = some (Value.int (Int32.ofInt (a_up (hI h) a f' x a f')))
        rw [a_up_at]
        rfl
      · rw [a_setSlot_ne _ _ (hap f f' hf hf2 (fun z => q z.symm)), e4 f' hf2, a_svI _ _ _ (Or.inr (by omega))]
  refine k p e s m args below meth c n0 u0 H' _ ls C (S.put (h' := wI h a f x) rfl rfl R' (okt (okt hs)) ?_)
  show a_B G ≤ a_rh G a
  rw [a_rh_own ho]
  omega
theorem aw_putRF {a i ci f : Nat} {x : Nat} (hd : decode (a_cc M) pc = .ok (.putfield i, 3)) (F : a_Fd (a_ow M) i ci f 2) (hk : hK h a = 20 + ci) (ho : 12 ≤ a) (hfin : (a_T ci f).2.2.2 = true) (hdecl : (a_T ci f).1 = a_ow M) (hini : (a_y M).name = "<init>") (k : AW l G M P (pc + 3) lv st (wR h a f (some x))) : AW l G M P pc lv (vr x :: vr a :: st) h := by
  intro p e s m args below meth c n0 u0 H locs ls C S
  have hs := S.ok
  obtain ⟨hc, hf, hty, hw⟩ := F
  obtain ⟨-, cell, e1, e2, e3, e4⟩ := (S.rep.2.2.2 a).2.1 (by omega) (by omega)
  rw [show hK h a - 20 = ci by omega] at e2 e4
  have hts := a_hts C.2.2.2.2.2.1 ci hc args
  have hap := va_apart (own := a_ow M) hts (fun _ q => q) (a_t ci) (a_ty ci hc) (a_nm ci hc) C.2.2.2.2.2.2.1 (a_cls_at hc)
  obtain ⟨hS, hfc, kC, hkC, hkind⟩ := C.2.2.2.2.2.2.1.1 ci _ (a_cls_at hc)
  obtain ⟨cf, kf, fi, fd, hi, hsl⟩ := hS f hf
  have hlay := hts _ (u_in_lay hf)
  unfold u_lay at hlay
  have hst := (u_facts (args := args) hfc hkC (u_lays hts (fun _ q => q) hf) hi).1
  have hnar : narrow (a_t ci f) (.ref (a_rh G x)) = (.ref (a_rh G x)) ∧ fits (a_t ci f) (.ref (a_rh G x)) = true := by
    revert hty
    cases a_t ci f <;> intro hty <;> first | exact ⟨rfl, rfl⟩ | (cases hty; done)
  rw [if_pos hfin] at hlay
  have hcf : m.cls = cf := by
    obtain ⟨_, _, c', _, _, _, -, -, hf', -, -, -, hown2, -⟩ := Cond.laysFinal_spec hlay
    have e9 : c' = cf := by have := hi.symm.trans hf'; simp at this; exact this.1.symm
    rw [hdecl] at hown2
    rw [← e9]; exact Option.some.inj (C.2.2.2.2.1.symm.trans hown2)
  have h6 := u_fits hfc hkC hkind (Or.inr hlay) hi (a_ty ci hc f hf) hnar.1 hnar.2
  refine W.putFinK C.1 C.2.1 C.2.2.2.2.1 (C.2.2.2.2.2.1.at hw rfl args) hi hst hcf (C.2.2.2.2.2.2.2.2.2.1.trans hini) (by rw [e2]; exact h6) e1 e3 (by rw [hsl]; exact k2_hasslot (e4 f hf)) rfl rfl hd fun H' q1 q2 q3 => ?_
  rw [hsl] at q1
  have R' : a_Rep s G (wR h a f (some x)) H' := by
    refine S.rep.store (h' := wR h a f (some x)) C.2.2.2.2.2.2.2.2.2.2 rfl rfl rfl (okH_wR S.rep.2.1) ho q2 q3 (fun t k i hn => a_svR t k i (Or.inl hn)) (fun _ q => by omega) (fun _ _ => ?_) (fun q => by omega)
    refine ⟨by show hK h a - 20 < 11; omega, _, q1, ?_, by rw [a_setSlot_vm]; exact e3, fun f' hf' => ?_⟩
    · show (cell.setSlot _ _).cls = (a_D G).1 (hK h a - 20)
      rw [show hK h a - 20 = ci by omega]
      exact e2
    · have hf2 : f' < a_F ci := by
        have q : f' < a_F (hK h a - 20) := hf'
        rwa [show hK h a - 20 = ci by omega] at q
      show (cell.setSlot _ _).slots[(a_D G).2 (hK h a - 20) f']? = some (a_sv (a_rh G) _ (a_fk (a_t (hK h a - 20) f')) a f')
      rw [show hK h a - 20 = ci by omega]
      by_cases q : f' = f
      · subst q
        rw [a_setSlot_at _ _ (k2_hasslot (e4 f' hf2)), hty]
        show _ = some (va_rf ((a_up (hR h) a f' (some x) a f').map (a_rh G)))
        rw [a_up_at]
        rfl
      · rw [a_setSlot_ne _ _ (hap f f' hf hf2 (fun z => q z.symm)), e4 f' hf2, a_svR _ _ _ (Or.inr (by omega))]
  refine k p e s m args below meth c n0 u0 H' _ ls C (S.put (h' := wR h a f (some x)) rfl rfl R' (okt (okt hs)) ?_)
  show a_B G ≤ a_rh G a
  rw [a_rh_own ho]
  omega
end AH
