/-! THE PICTURE: values, heaps, how the machine's heap holds a picture, the judgement AW -/
abbrev AV : Type := Int ⊕ (Int ⊕ Option Nat)
abbrev vi (x : Int) : AV := Sum.inl x
abbrev vl (x : Int) : AV := Sum.inr (Sum.inl x)
abbrev vr (a : Nat) : AV := Sum.inr (Sum.inr (some a))
abbrev Hp : Type := (Nat → Nat) × (Nat → Int) × (Nat → Int → Int) × (Nat → Int → Int) × (Nat → Int → Option Nat) × Nat × Nat
def hK (h : Hp) : Nat → Nat := h.1
def hN (h : Hp) : Nat → Int := h.2.1
def hI (h : Hp) : Nat → Int → Int := h.2.2.1
def hL (h : Hp) : Nat → Int → Int := h.2.2.2.1
def hR (h : Hp) : Nat → Int → Option Nat := h.2.2.2.2.1
def hX (h : Hp) : Nat := h.2.2.2.2.2.1
def hU (h : Hp) : Nat := h.2.2.2.2.2.2
def a_up {α : Type} (f : Nat → Int → α) (a : Nat) (j : Int) (v : α) : Nat → Int → α := fun b i => if b = a ∧ i = j then v else f b i
def wI (h : Hp) (a : Nat) (j v : Int) : Hp := (h.1, h.2.1, a_up (hI h) a j v, h.2.2.2)
def wL (h : Hp) (a : Nat) (j v : Int) : Hp := (h.1, h.2.1, h.2.2.1, a_up (hL h) a j v, h.2.2.2.2)
def wR (h : Hp) (a : Nat) (j : Int) (v : Option Nat) : Hp := (h.1, h.2.1, h.2.2.1, h.2.2.2.1, a_up (hR h) a j v, h.2.2.2.2.2)
/-- a new cell of kind q with n places, all of them zero or null -/
def wN (h : Hp) (q : Nat) (n : Nat) : Hp := (fun k => if k = hX h then q else hK h k, fun k => if k = hX h then (n : Int) else hN h k, fun k j => if k = hX h then 0 else hI h k j, fun k j => if k = hX h then 0 else hL h k j, fun k j => if k = hX h then none else hR h k j, hX h + 1, hU h + n)
def a_cv (ρ : Nat → Nat) : AV → Value
  | .inl x => .int (Int32.ofInt x)
  | .inr (.inl x) => .long (Int64.ofInt x)
  | .inr (.inr r) => va_rf (r.map ρ)
def okI (x : Int) : Prop := -2147483648 ≤ x ∧ x < 2147483648
def okL (x : Int) : Prop := -9223372036854775808 ≤ x ∧ x < 9223372036854775808
def okv : AV → Prop
  | .inl x => okI x
  | .inr (.inl x) => okL x
  | .inr (.inr _) => True
def a_w32 (x : Int) : Int := (x + 2147483648) % 4294967296 - 2147483648
def a_w64 (x : Int) : Int := (x + 9223372036854775808) % 18446744073709551616 - 9223372036854775808
theorem a_w32_in (x : Int) : okI (a_w32 x) := by unfold a_w32 okI; omega
theorem a_w64_in (x : Int) : okL (a_w64 x) := by unfold a_w64 okL; omega
theorem a_w32_id {x : Int} (h1 : -2147483648 ≤ x) (h2 : x < 2147483648) : a_w32 x = x := by unfold a_w32; omega
theorem a_w64_id {x : Int} (h1 : -9223372036854775808 ≤ x) (h2 : x < 9223372036854775808) : a_w64 x = x := by unfold a_w64; omega
theorem a_i32 {x : Int} (h : okI x) : (Int32.ofInt x).toInt = x := Int32.toInt_ofInt_of_le (by unfold okI at h; omega) (by unfold okI at h; omega)
theorem a_i64 {x : Int} (h : okL x) : (Int64.ofInt x).toInt = x := Int64.toInt_ofInt_of_le (by unfold okL at h; omega) (by unfold okL at h; omega)
theorem a_ok32 (i : Int32) : okI i.toInt := ⟨i.le_toInt, i.toInt_lt⟩
theorem a_ok64 (i : Int64) : okL i.toInt := ⟨i.le_toInt, i.toInt_lt⟩
theorem a_o32 (x : Int) : Int32.ofInt (a_w32 x) = Int32.ofInt x := by
  apply Int32.toInt_inj.1
  rw [a_i32 (a_w32_in x), Int32.toInt_ofInt]
  unfold a_w32 Int.bmod
  simp only [Int32.size]
  split <;> omega
theorem a_o64 (x : Int) : Int64.ofInt (a_w64 x) = Int64.ofInt x := by
  apply Int64.toInt_inj.1
  rw [a_i64 (a_w64_in x), Int64.toInt_ofInt]
  unfold a_w64 Int.bmod
  simp only [Int64.size]
  split <;> omega
theorem a_lt {x y : Int} (hx : okI x) (hy : okI y) : Int32.ofInt x < Int32.ofInt y ↔ x < y := by rw [Int32.lt_iff_toInt_lt, a_i32 hx, a_i32 hy]
theorem a_le {x y : Int} (hx : okI x) (hy : okI y) : Int32.ofInt x ≤ Int32.ofInt y ↔ x ≤ y := by rw [Int32.le_iff_toInt_le, a_i32 hx, a_i32 hy]
theorem a_eq {x y : Int} (hx : okI x) (hy : okI y) : Int32.ofInt x = Int32.ofInt y ↔ x = y := by rw [← Int32.toInt_inj, a_i32 hx, a_i32 hy]
theorem a_cl {x : Int} (hx : okI x) (h0 : 0 ≤ x) : (Int32.ofInt x).toNatClampNeg = x.toNat := Int32.toNatClampNeg_ofInt_of_le (by unfold okI at hx; omega) (by unfold okI at hx; omega)
theorem a_n0 {x : Int} (hx : okI x) (h0 : 0 ≤ x) : ¬ Int32.ofInt x < 0 := by
  rw [Int32.lt_iff_toInt_lt, a_i32 hx]
  show ¬ x < (0 : Int)
  omega
theorem a_vin {x : Int} {n : Nat} (hx : okI x) (h0 : 0 ≤ x) (h1 : x < n) : ¬ (Int32.ofInt x < 0 ∨ n ≤ (Int32.ofInt x).toNatClampNeg) := by
  rw [a_cl hx h0]
  rintro (h | h)
  · exact a_n0 hx h0 h
  · omega
-- the kinds of cells
def a_et (q : Nat) : Nat := if q < 4 then 0 else if q = 4 then 1 else 2
def a_ft (q : Nat) : FieldType := match q with
  | 1 => .int
  | 2 => .byte
  | 3 => .boolean
  | 4 => .long
  | 5 => .array .int
  | 6 => .array .byte
  | 7 => .array .boolean
  | 8 => .object "ModuleSigner$Bytes"
  | _ => .object "ModuleSigner$Parameters"
def a_fk : FieldType → Nat
  | .int => 0
  | .long => 1
  | .object _ => 2
  | .array _ => 2
  | _ => 3
def a_sv (ρ : Nat → Nat) (h : Hp) (t k : Nat) (j : Int) : Value := if t = 0 then .int (Int32.ofInt (hI h k j)) else if t = 1 then .long (Int64.ofInt (hL h k j)) else va_rf ((hR h k j).map ρ)
/-- B: where the law's own cells begin; sa: where the old arrays lie (static ones, the script); D: the classes' numbers; H0: the heap at the law's entry -/
abbrev a_G : Type := Nat × (Nat → Nat) × va_G × Heap
def a_B (G : a_G) : Nat := G.1
def a_D (G : a_G) : va_G := G.2.2.1
def a_H0 (G : a_G) : Heap := G.2.2.2
def a_rh (G : a_G) (k : Nat) : Nat := if k < 12 then G.2.1 k else G.1 + (k - 12)
def a_crA (s : State) (G : a_G) (h : Hp) (H : Heap) (k : Nat) : Prop := ∃ cell : Cell, H[a_rh G k]? = some cell ∧ s.isArrayOf cell (a_ft (hK h k)) ∧ cell.vm ≠ .unknown ∧ (hN h k ≤ (cell.slots.size : Int) ∧ cell.slots.size.toInt32 = Int32.ofInt (hN h k)) ∧ (∀ j : Nat, (j : Int) < hN h k → cell.slots[j]? = some (a_sv (a_rh G) h (a_et (hK h k)) k j)) ∧ (8 ≤ hK h k → va_RA s cell.cls (a_ft (hK h k)))
def a_crO (G : a_G) (h : Hp) (H : Heap) (k : Nat) : Prop := hK h k - 20 < 11 ∧ ∃ cell : Cell, H[a_rh G k]? = some cell ∧ cell.cls = (a_D G).1 (hK h k - 20) ∧ cell.vm = .none ∧ ∀ f : Nat, f < a_F (hK h k - 20) → cell.slots[(a_D G).2 (hK h k - 20) f]? = some (a_sv (a_rh G) h (a_fk (a_t (hK h k - 20) f)) k f)
def a_crE (s : State) (G : a_G) (h : Hp) (H : Heap) (k : Nat) : Prop := ∃ cell : Cell, H[a_rh G k]? = some cell ∧ cell.vm.isStatics = false ∧ s.vm.findClass (a_en (hK h k - 40)) = some cell.cls
def okH (h : Hp) : Prop := (∀ k j, okI (hI h k j)) ∧ (∀ k j, okL (hL h k j)) ∧ (∀ k, 0 ≤ hN h k ∧ hN h k < 2147483648) ∧ (∀ k j, hK h k = 2 → -128 ≤ hI h k j ∧ hI h k j < 128) ∧ (∀ k j, hK h k = 3 → 0 ≤ hI h k j ∧ hI h k j < 2) ∧ (∀ k, hK h k ≠ 0 → k < hX h) ∧ 12 ≤ hX h
def a_Rep (s : State) (G : a_G) (h : Hp) (H : Heap) : Prop := H.size = a_B G + (hX h - 12) ∧ okH h ∧ (∀ q, q < a_B G → H[q]? = (a_H0 G)[q]?) ∧ ∀ k, (0 < hK h k → hK h k < 20 → a_crA s G h H k) ∧ (20 ≤ hK h k → hK h k < 40 → a_crO G h H k) ∧ (40 ≤ hK h k → a_crE s G h H k)
-- methods: name, bytes, words of its frame, what it returns, its class, frames and words that it needs above its own, its handlers
abbrev a_M : Type := MethodName × ByteArray × Nat × Option FieldType × String × Nat × Nat × List (Nat × Nat × Nat × Nat)
def a_y (M : a_M) : MethodName := M.1
def a_cc (M : a_M) : ByteArray := M.2.1
def a_ml (M : a_M) : Nat := M.2.2.1
def a_rt (M : a_M) : Option FieldType := M.2.2.2.1
def a_ow (M : a_M) : String := M.2.2.2.2.1
def a_fr (M : a_M) : Nat := M.2.2.2.2.2.1
def a_lo (M : a_M) : Nat := M.2.2.2.2.2.2.1
def a_hs (M : a_M) : List (Nat × Nat × Nat × Nat) := M.2.2.2.2.2.2.2
def a_NX : Nat := 601036
def a_US : Nat := 7293034
def a_rm (M : a_M) (n0 u0 : Nat) : Room := { frames := a_fr M, cells := a_NX - n0, slots := a_US - u0, locals := a_lo M }
-- the static arrays: class, name, descriptor
def a_sn (k : Nat) : String × String × String := match k with
  | 0 => ("ModuleSigner$Parameters", "K", "[I")
  | 1 => ("ModuleSigner$Parameters", "L", "[I")
  | 2 => ("ModuleSigner$Parameters", "E", "[I")
  | 3 => ("ModuleSigner$Parameters", "T", "[I")
  | 4 => ("ModuleSigner$Parameters", "G1", "[I")
  | 5 => ("ModuleSigner$Parameters", "HIGHS", "[I")
  | 6 => ("ModuleSigner$Parameters", "W", "[I")
  | 7 => ("ModuleSigner$Parameters", "C", "[I")
  | 8 => ("ModuleSigner$Sponge", "ROUNDS", "[J")
  | 9 => ("ModuleSigner$Sponge", "GOALS", "[I")
  | _ => ("ModuleSigner$Sponge", "TURNS", "[I")
/-- what is given at the law's entry, s0: the tables' words, the statement's premises, where the static arrays lie; and s' tables are warmer than s0's -/
def a_Wd (G : a_G) (s : State) : Prop := ∃ (s0 : State) (a0 : Array Value), (∀ w ∈ lw_tbl, w.before a0 s0 = true) ∧ s0.WarmedH s.vm ∧ s0.heap = a_H0 G ∧ (Jvm.Cond.and given_1 narrow_1).before a0 s0 = true ∧ (a_H0 G).size = a_B G ∧ ∀ k, k < 11 → va_Z (a_sn k).1 (a_sn k).2.1 (a_sn k).2.2 (.ref (G.2.1 k)) (fun q => a_B G ≤ q) s0 s0.heap
theorem a_Wd.at {G : a_G} {s : State} (h : a_Wd G s) {w : Cond} (hw : w ∈ lw_tbl) (hg : goodWord w = true) (a : Array Value) : w.before a s = true := by
  obtain ⟨s0, a0, h1, h2, h3⟩ := h
  exact word_at h2 (good_of_word hg) (h1 w hw)
theorem a_Wd.moved {G : a_G} {s U : State} (h : a_Wd G s) (hW : s.WarmedH U.vm) : a_Wd G U := by
  obtain ⟨s0, a0, h1, h2, h3⟩ := h
  exact ⟨s0, a0, h1, State.WarmedH.trans h2 hW, h3⟩
abbrev a_R : Type := Option AV ⊕ Nat
def a_ro (ρ : Nat → Nat) : a_R → Outcome
  | .inl v => .returned (v.map (a_cv ρ))
  | .inr k => .threw (ρ k)
def okr : a_R → Prop
  | .inl (some v) => okv v
  | _ => True
def a_Cx (G : a_G) (M : a_M) (p : Program) (s : State) (m : MethodId) (meth : Method) (c : Code) : Prop :=
  p.tables.exec = Jvm.exec ∧ c.code = a_cc M ∧ meth.sig.returnType = a_rt M ∧ c.maxLocals = a_ml M ∧ s.vm.findClass (a_ow M) = some m.cls ∧ a_Wd G s ∧ va_K (a_D G) a_cls [] s ∧ meth.locks = false ∧ c.exceptionTable.toList.map (fun h => (h.startPc, h.endPc, h.handlerPc, h.catchType)) = a_hs M ∧ meth.name = (a_y M).name ∧ (∀ k, k < 12 → G.2.1 k < a_B G)
def a_Q (G : a_G) (below : List Frame) (s : State) (n0 u0 : Nat) (P : a_R → Hp → Prop) : State → Prop := fun t => ∃ (r : a_R) (h : Hp) (L : List Loc), P r h ∧ okr r ∧ t.status = .running ∧ Ended t below (a_ro (a_rh G) r) ∧ a_Rep t G h t.heap ∧ n0 ≤ hX h ∧ hX h ≤ a_NX ∧ u0 ≤ hU h ∧ hU h ≤ a_US ∧ s.WarmedH t.vm ∧ s.sameButNew ({ t with vm := s.vm } : State) L (hX h - n0) (hU h - u0) ∧ ∀ q ∈ L, a_B G ≤ q.base
def a_lm (ρ : Nat → Nat) (lv : List (Nat × AV)) : List (Nat × Value) := lv.map (fun q => (q.1, a_cv ρ q.2))
def a_St (G : a_G) (M : a_M) (s : State) (n0 u0 : Nat) (H : Heap) (locs : List Loc) (ls : Array Slot) (lv : List (Nat × AV)) (st : List AV) (h : Hp) : Prop :=
  (n0 ≤ hX h ∧ hX h ≤ a_NX ∧ u0 ≤ hU h ∧ hU h ≤ a_US) ∧ a_Rep s G h H ∧ lv_has ls (a_ml M) (a_lm (a_rh G) lv) ∧ (∀ q ∈ lv, okv q.2) ∧ (∀ v ∈ st, okv v) ∧ ∀ q ∈ locs, a_B G ≤ q.base
/-- THE JUDGEMENT: from the point pc of M with these words, this stack and any heap that holds the picture h, the machine comes to the method's end, with an answer and a picture that P allows; wherever the method was called from -/
def AW (l : Launch) (G : a_G) (M : a_M) (P : a_R → Hp → Prop) (pc : Nat) (lv : List (Nat × AV)) (st : List AV) (h : Hp) : Prop :=
  ∀ (p : Program) (e : Env) (s : State) (m : MethodId) (args : Array Value) (below : List Frame) (meth : Method) (c : Code) (n0 u0 : Nat) (H : Heap) (locs : List Loc) (ls : Array Slot), a_Cx G M p s m meth c → a_St G M s n0 u0 H locs ls lv st h →
    W p l e (a_rm M n0 u0) s m args below meth c H locs (hX h - n0) (hU h - u0) (a_Q G below s n0 u0 P) (F0 m pc ls (st.map (a_cv (a_rh G))))
theorem a_St.st {G : a_G} {M : a_M} {s : State} {n0 u0 : Nat} {H : Heap} {locs : List Loc} {ls : Array Slot} {lv : List (Nat × AV)} {st st' : List AV} {h : Hp} (S : a_St G M s n0 u0 H locs ls lv st h) (hs : ∀ v ∈ st', okv v) : a_St G M s n0 u0 H locs ls lv st' h := by
  obtain ⟨h1, h2, h3, h4, h5, h6⟩ := S
  exact ⟨h1, h2, h3, h4, hs, h6⟩
theorem a_St.loc {G : a_G} {M : a_M} {s : State} {n0 u0 : Nat} {H : Heap} {locs : List Loc} {ls ls' : Array Slot} {lv lv' : List (Nat × AV)} {st st' : List AV} {h : Hp} (S : a_St G M s n0 u0 H locs ls lv st h) (hl : lv_has ls' (a_ml M) (a_lm (a_rh G) lv')) (hv : ∀ q ∈ lv', okv q.2) (hs : ∀ v ∈ st', okv v) : a_St G M s n0 u0 H locs ls' lv' st' h := by
  obtain ⟨h1, h2, h3, h4, h5, h6⟩ := S
  exact ⟨h1, h2, hl, hv, hs, h6⟩
theorem a_St.ok {G : a_G} {M : a_M} {s : State} {n0 u0 : Nat} {H : Heap} {locs : List Loc} {ls : Array Slot} {lv : List (Nat × AV)} {st : List AV} {h : Hp} (S : a_St G M s n0 u0 H locs ls lv st h) : ∀ v ∈ st, okv v := S.2.2.2.2.1
theorem a_St.rep {G : a_G} {M : a_M} {s : State} {n0 u0 : Nat} {H : Heap} {locs : List Loc} {ls : Array Slot} {lv : List (Nat × AV)} {st : List AV} {h : Hp} (S : a_St G M s n0 u0 H locs ls lv st h) : a_Rep s G h H := S.2.1
/-- which place of the list holds the word i -/
def a_lk : List (Nat × AV) → Nat → Option AV
  | [], _ => none
  | q :: l, i => if q.1 = i then some q.2 else a_lk l i
theorem a_lk_mem : ∀ {lv : List (Nat × AV)} {i : Nat} {v : AV}, a_lk lv i = some v → (i, v) ∈ lv
  | q :: l, i, v, h => by
    unfold a_lk at h
    split at h
    · rename_i e
      cases h
      rw [← e]
      exact List.mem_cons_self
    · exact List.mem_cons_of_mem _ (a_lk_mem h)
theorem a_St.at {G : a_G} {M : a_M} {s : State} {n0 u0 : Nat} {H : Heap} {locs : List Loc} {ls : Array Slot} {lv : List (Nat × AV)} {st : List AV} {h : Hp} (S : a_St G M s n0 u0 H locs ls lv st h) {i : Nat} {v : AV} (hi : a_lk lv i = some v) : ls[i]? = some (.val (a_cv (a_rh G) v)) ∧ okv v := by
  obtain ⟨-, -, h3, h4, -⟩ := S
  exact ⟨h3.2.2 _ (List.mem_map.mpr ⟨_, a_lk_mem hi, rfl⟩), h4 _ (a_lk_mem hi)⟩
theorem okc {v : AV} {st : List AV} (h : okv v) (hs : ∀ u ∈ st, okv u) : ∀ u ∈ v :: st, okv u := List.forall_mem_cons.mpr ⟨h, hs⟩
