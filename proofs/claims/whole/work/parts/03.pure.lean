/-! rows of the picture: constants, words, stack, numbers, branches -/
def a_w8 (x : Int) : Int := (x + 128) % 256 - 128
def a_and (x y : Int) : Int := (Int32.ofInt x &&& Int32.ofInt y).toInt
def a_or (x y : Int) : Int := (Int32.ofInt x ||| Int32.ofInt y).toInt
def a_xor (x y : Int) : Int := (Int32.ofInt x ^^^ Int32.ofInt y).toInt
def a_shl (x y : Int) : Int := (Int32.ofInt x <<< (Int32.ofInt y &&& 31)).toInt
def a_shr (x y : Int) : Int := (Int32.ofInt x >>> (Int32.ofInt y &&& 31)).toInt
def a_ushr (x y : Int) : Int := ((Int32.ofInt x).toUInt32 >>> ((Int32.ofInt y).toUInt32 &&& Int32.toUInt32 31)).toInt32.toInt
def a_land (x y : Int) : Int := (Int64.ofInt x &&& Int64.ofInt y).toInt
def a_lor (x y : Int) : Int := (Int64.ofInt x ||| Int64.ofInt y).toInt
def a_lxor (x y : Int) : Int := (Int64.ofInt x ^^^ Int64.ofInt y).toInt
def a_lshl (x y : Int) : Int := (Int64.ofInt x <<< ((Int32.ofInt y).toInt64 &&& 63)).toInt
def a_lushr (x y : Int) : Int := ((Int64.ofInt x).toUInt64 >>> ((Int32.ofInt y).toInt64.toUInt64 &&& Int64.toUInt64 63)).toInt64.toInt
def a_lcmp (x y : Int) : Int := if x < y then -1 else if x = y then 0 else 1
theorem a_b32 (x : Int) : a_w32 x = x.bmod (2 ^ 32) := by
  unfold a_w32 Int.bmod
  dsimp only
  split <;> omega
theorem a_b64 (x : Int) : a_w64 x = x.bmod (2 ^ 64) := by
  unfold a_w64 Int.bmod
  dsimp only
  split <;> omega
theorem a_zI : okI 0 := ⟨by decide, by decide⟩
theorem a_zL : okL 0 := ⟨by decide, by decide⟩
theorem a_div32 {x y : Int} (hx : okI x) (hy : okI y) : Int32.ofInt x / Int32.ofInt y = Int32.ofInt (a_w32 (x.tdiv y)) := by
  apply Int32.toInt_inj.1
  rw [Int32.toInt_div, a_i32 hx, a_i32 hy, a_i32 (a_w32_in _), a_b32]
theorem a_div64 {x y : Int} (hx : okL x) (hy : okL y) : Int64.ofInt x / Int64.ofInt y = Int64.ofInt (a_w64 (x.tdiv y)) := by
  apply Int64.toInt_inj.1
  rw [Int64.toInt_div, a_i64 hx, a_i64 hy, a_i64 (a_w64_in _), a_b64]
theorem a_rem32 {x y : Int} (hx : okI x) (hy : okI y) : Int32.ofInt x - Int32.ofInt x / Int32.ofInt y * Int32.ofInt y = Int32.ofInt (x.tmod y) := by
  rw [a_div32 hx hy, a_o32, ← Int32.ofInt_mul, ← Int32.ofInt_sub, Int.tmod_def, Int.mul_comm]
theorem a_rem64 {x y : Int} (hx : okL x) (hy : okL y) : Int64.ofInt x - Int64.ofInt x / Int64.ofInt y * Int64.ofInt y = Int64.ofInt (x.tmod y) := by
  rw [a_div64 hx hy, a_o64, ← Int64.ofInt_mul, ← Int64.ofInt_sub, Int.tmod_def, Int.mul_comm]
theorem a_remok {x y : Int} (hx : okI x) (hy : okI y) : okI (x.tmod y) := by
  have h := a_ok32 (Int32.ofInt x % Int32.ofInt y)
  rwa [Int32.toInt_mod, a_i32 hx, a_i32 hy] at h
theorem a_remokL {x y : Int} (hx : okL x) (hy : okL y) : okL (x.tmod y) := by
  have h := a_ok64 (Int64.ofInt x % Int64.ofInt y)
  rwa [Int64.toInt_mod, a_i64 hx, a_i64 hy] at h
theorem a_i2l {x : Int} (hx : okI x) : (Int32.ofInt x).toInt64 = Int64.ofInt x := by
  apply Int64.toInt_inj.1
  rw [Int32.toInt_toInt64, a_i32 hx, a_i64]
  unfold okI at hx; unfold okL; omega
theorem a_l2i {x : Int} (hx : okL x) : (Int64.ofInt x).toInt32 = Int32.ofInt (a_w32 x) := by
  rw [← Int32.ofInt_int64ToInt, a_i64 hx, a_o32]
theorem a_i2b {x : Int} (hx : okI x) : (Int32.ofInt x).toInt8.toInt32 = Int32.ofInt (a_w8 x) := by
  rw [← Int8.ofInt_int32ToInt, a_i32 hx, ← Int32.ofInt_int8ToInt]
  congr 1
  rw [Int8.toInt_ofInt]
  unfold a_w8 Int.bmod
  simp only [Int8.size]
  split <;> omega
theorem a_w8ok (x : Int) : okI (a_w8 x) := by unfold a_w8 okI; omega
theorem a_ne0 {y : Int} (hy : okI y) (h : y ≠ 0) : ¬ Int32.ofInt y = 0 := fun q => h ((a_eq hy a_zI).mp q)
theorem a_eqL {x y : Int} (hx : okL x) (hy : okL y) : Int64.ofInt x = Int64.ofInt y ↔ x = y := by rw [← Int64.toInt_inj, a_i64 hx, a_i64 hy]
theorem a_ltL {x y : Int} (hx : okL x) (hy : okL y) : Int64.ofInt x < Int64.ofInt y ↔ x < y := by rw [Int64.lt_iff_toInt_lt, a_i64 hx, a_i64 hy]
theorem a_ne0L {y : Int} (hy : okL y) (h : y ≠ 0) : ¬ Int64.ofInt y = 0 := fun q => h ((a_eqL hy a_zL).mp q)
-- the words of a frame
def a_c2 : AV → Bool
  | .inr (.inl _) => true
  | _ => false
theorem a_c2_ok (ρ : Nat → Nat) (v : AV) : ((a_cv ρ v).category == 2) = a_c2 v := by
  rcases v with x | x | r
  · rfl
  · rfl
  · cases r <;> rfl
theorem a_cat1 {ρ : Nat → Nat} {v : AV} (h : a_c2 v = false) : (a_cv ρ v).category = 1 := by
  rcases v with x | x | r
  · rfl
  · cases h
  · cases r <;> rfl
def a_s1 (lv : List (Nat × AV)) (i : Nat) (v : AV) : List (Nat × AV) := (i, v) :: lv.filter (fun q => !(q.1 == i) && !(q.1 + 1 == i && a_c2 q.2))
def a_s2 (lv : List (Nat × AV)) (i : Nat) (v : AV) : List (Nat × AV) := (i, v) :: lv.filter (fun q => !(q.1 == i) && (!(q.1 == i + 1) && !(q.1 + 1 == i && a_c2 q.2)))
theorem a_lm_s1 (ρ : Nat → Nat) (lv : List (Nat × AV)) (i : Nat) (v : AV) : (i, a_cv ρ v) :: (a_lm ρ lv).filter (fun q => !(q.1 == i) && !(q.1 + 1 == i && q.2.category == 2)) = a_lm ρ (a_s1 lv i v) := by
  unfold a_lm a_s1
  rw [List.map_cons, List.filter_map]
  congr 2
  apply List.filter_congr
  intro q _
  simp only [Function.comp, a_c2_ok]
theorem a_lm_s2 (ρ : Nat → Nat) (lv : List (Nat × AV)) (i : Nat) (v : AV) : (i, a_cv ρ v) :: (a_lm ρ lv).filter (fun q => !(q.1 == i) && (!(q.1 == i + 1) && !(q.1 + 1 == i && q.2.category == 2))) = a_lm ρ (a_s2 lv i v) := by
  unfold a_lm a_s2
  rw [List.map_cons, List.filter_map]
  congr 2
  apply List.filter_congr
  intro q _
  simp only [Function.comp, a_c2_ok]
theorem a_s1_ok {lv : List (Nat × AV)} {i : Nat} {v : AV} (h : ∀ q ∈ lv, okv q.2) (hv : okv v) : ∀ q ∈ a_s1 lv i v, okv q.2 := by
  intro q hq
  rcases List.mem_cons.mp hq with rfl | hq
  · exact hv
  · exact h q (List.mem_filter.mp hq).1
theorem a_s2_ok {lv : List (Nat × AV)} {i : Nat} {v : AV} (h : ∀ q ∈ lv, okv q.2) (hv : okv v) : ∀ q ∈ a_s2 lv i v, okv q.2 := by
  intro q hq
  rcases List.mem_cons.mp hq with rfl | hq
  · exact hv
  · exact h q (List.mem_filter.mp hq).1
section AR
variable {l : Launch} {G : a_G} {M : a_M} {P : a_R → Hp → Prop} {pc : Nat} {lv lv' : List (Nat × AV)} {st : List AV} {h : Hp}
theorem ok1 {v : AV} (hs : ∀ u ∈ v :: st, okv u) : okv v := hs v List.mem_cons_self
theorem ok2 {v w : AV} (hs : ∀ u ∈ v :: w :: st, okv u) : okv w := hs w (List.mem_cons_of_mem _ List.mem_cons_self)
theorem okt {v : AV} (hs : ∀ u ∈ v :: st, okv u) : ∀ u ∈ st, okv u := fun u hu => hs u (List.mem_cons_of_mem _ hu)
/-- fewer words, in another order -/
theorem aw_sub (hv : ∀ q ∈ lv', q ∈ lv) (k : AW l G M P pc lv' st h) : AW l G M P pc lv st h := by
  intro p e s m args below meth c n0 u0 H locs ls C S
  refine k p e s m args below meth c n0 u0 H locs ls C ?_
  obtain ⟨h1, h2, h3, h4, h5, h6⟩ := S
  refine ⟨h1, h2, ⟨h3.1, h3.2.1, fun q hq => ?_⟩, fun q hq => h4 q (hv q hq), h5, h6⟩
  obtain ⟨q', hq', rfl⟩ := List.mem_map.mp hq
  exact h3.2.2 _ (List.mem_map.mpr ⟨q', hv q' hq', rfl⟩)
/-- what a picture that stands in the machine is -/
theorem aw_ok (k : okH h → (∀ q ∈ lv, okv q.2) → (∀ v ∈ st, okv v) → hX h ≤ a_NX → hU h ≤ a_US → AW l G M P pc lv st h) : AW l G M P pc lv st h := by
  intro p e s m args below meth c n0 u0 H locs ls C S
  exact k S.rep.2.1 S.2.2.2.1 S.ok S.1.2.1 S.1.2.2.2 p e s m args below meth c n0 u0 H locs ls C S
theorem aw_mono {P' : a_R → Hp → Prop} (hP : ∀ r h, P r h → P' r h) (k : AW l G M P pc lv st h) : AW l G M P' pc lv st h := by
  intro p e s m args below meth c n0 u0 H locs ls C S T hT X
  obtain ⟨t, a1, r, h', L, b1, b2⟩ := k p e s m args below meth c n0 u0 H locs ls C S T hT X
  exact ⟨t, a1, r, h', L, hP _ _ b1, b2⟩

theorem aw_iconst {n : Int} (hd : decode (a_cc M) pc = .ok (.iconst n, 1)) (hn : okI n) (k : AW l G M P (pc + 1) lv (vi n :: st) h) : AW l G M P pc lv (st) h := by
  intro p e s m args below meth c n0 u0 H locs ls C S
  have hs := S.ok
  have kk := k p e s m args below meth c n0 u0 H locs ls C (S.st (okc hn hs))
  refine lv_iconst (v := Int32.ofInt n) C.1 C.2.1 hd rfl ?_
  exact kk
theorem aw_bipush {n : Int} (hd : decode (a_cc M) pc = .ok (.bipush n, 2)) (hn : okI n) (hv : (Int8.ofInt n).toInt32 = Int32.ofInt n) (k : AW l G M P (pc + 2) lv (vi n :: st) h) : AW l G M P pc lv (st) h := by
  intro p e s m args below meth c n0 u0 H locs ls C S
  have hs := S.ok
  have kk := k p e s m args below meth c n0 u0 H locs ls C (S.st (okc hn hs))
  refine lv_bipush (v := Int32.ofInt n) C.1 C.2.1 hd hv ?_
  exact kk
theorem aw_sipush {n : Int} (hd : decode (a_cc M) pc = .ok (.sipush n, 3)) (hn : okI n) (hv : (Int16.ofInt n).toInt32 = Int32.ofInt n) (k : AW l G M P (pc + 3) lv (vi n :: st) h) : AW l G M P pc lv (st) h := by
  intro p e s m args below meth c n0 u0 H locs ls C S
  have hs := S.ok
  have kk := k p e s m args below meth c n0 u0 H locs ls C (S.st (okc hn hs))
  refine lv_sipush (v := Int32.ofInt n) C.1 C.2.1 hd hv ?_
  exact kk
theorem aw_lconst {n : Fin 2} {x : Int} (hd : decode (a_cc M) pc = .ok (.lconst n, 1)) (hn : okL x) (hv : Int64.ofNat (n : Nat) = Int64.ofInt x) (k : AW l G M P (pc + 1) lv (vl x :: st) h) : AW l G M P pc lv (st) h := by
  intro p e s m args below meth c n0 u0 H locs ls C S
  have hs := S.ok
  have kk := k p e s m args below meth c n0 u0 H locs ls C (S.st (okc hn hs))
  refine lv_lconst (v := Int64.ofInt x) C.1 C.2.1 hd hv ?_
  exact kk
theorem aw_iload_n {k : Fin 4} {i : Nat} {x : Int} (hd : decode (a_cc M) pc = .ok (.iload_n k, 1)) (hi : (k : Nat) = i) (hl : a_lk lv i = some (vi x)) (k : AW l G M P (pc + 1) lv (vi x :: st) h) : AW l G M P pc lv (st) h := by
  intro p e s m args below meth c n0 u0 H locs ls C S
  have hs := S.ok
  have kk := k p e s m args below meth c n0 u0 H locs ls C (S.st (okc (S.at hl).2 hs))
  refine lv_iload_n C.1 C.2.1 hd hi (S.at hl).1 ?_
  exact kk
theorem aw_iload {i : Nat} {x : Int} (hd : decode (a_cc M) pc = .ok (.iload i, 2)) (hl : a_lk lv i = some (vi x)) (k : AW l G M P (pc + 2) lv (vi x :: st) h) : AW l G M P pc lv (st) h := by
  intro p e s m args below meth c n0 u0 H locs ls C S
  have hs := S.ok
  have kk := k p e s m args below meth c n0 u0 H locs ls C (S.st (okc (S.at hl).2 hs))
  refine lv_iload C.1 C.2.1 hd (S.at hl).1 ?_
  exact kk
theorem aw_lload_n {k : Fin 4} {i : Nat} {x : Int} (hd : decode (a_cc M) pc = .ok (.lload_n k, 1)) (hi : (k : Nat) = i) (hl : a_lk lv i = some (vl x)) (k : AW l G M P (pc + 1) lv (vl x :: st) h) : AW l G M P pc lv (st) h := by
  intro p e s m args below meth c n0 u0 H locs ls C S
  have hs := S.ok
  have kk := k p e s m args below meth c n0 u0 H locs ls C (S.st (okc (S.at hl).2 hs))
  refine lv_lload_n C.1 C.2.1 hd hi (S.at hl).1 ?_
  exact kk
theorem aw_lload {i : Nat} {x : Int} (hd : decode (a_cc M) pc = .ok (.lload i, 2)) (hl : a_lk lv i = some (vl x)) (k : AW l G M P (pc + 2) lv (vl x :: st) h) : AW l G M P pc lv (st) h := by
  intro p e s m args below meth c n0 u0 H locs ls C S
  have hs := S.ok
  have kk := k p e s m args below meth c n0 u0 H locs ls C (S.st (okc (S.at hl).2 hs))
  refine lv_lload C.1 C.2.1 hd (S.at hl).1 ?_
  exact kk
theorem aw_aload_n {k : Fin 4} {i : Nat} {x : Nat} (hd : decode (a_cc M) pc = .ok (.aload_n k, 1)) (hi : (k : Nat) = i) (hl : a_lk lv i = some (vr x)) (k : AW l G M P (pc + 1) lv (vr x :: st) h) : AW l G M P pc lv (st) h := by
  intro p e s m args below meth c n0 u0 H locs ls C S
  have hs := S.ok
  have kk := k p e s m args below meth c n0 u0 H locs ls C (S.st (okc (S.at hl).2 hs))
  refine lv_aload_n C.1 C.2.1 hd hi (S.at hl).1 ?_
  exact kk
theorem aw_aload {i : Nat} {x : Nat} (hd : decode (a_cc M) pc = .ok (.aload i, 2)) (hl : a_lk lv i = some (vr x)) (k : AW l G M P (pc + 2) lv (vr x :: st) h) : AW l G M P pc lv (st) h := by
  intro p e s m args below meth c n0 u0 H locs ls C S
  have hs := S.ok
  have kk := k p e s m args below meth c n0 u0 H locs ls C (S.st (okc (S.at hl).2 hs))
  refine lv_aload C.1 C.2.1 hd (S.at hl).1 ?_
  exact kk
theorem aw_istore_n {k : Fin 4} {i : Nat} {x : Int} (hd : decode (a_cc M) pc = .ok (.istore_n k, 1)) (hi : (k : Nat) = i) (hn : i < a_ml M) (hl : a_s1 lv i (vi x) = lv') (k : AW l G M P (pc + 1) lv' st h) : AW l G M P pc lv (vi x :: st) h := by
  intro p e s m args below meth c n0 u0 H locs ls C S
  have hs := S.ok
  subst hl
  refine lv_istore_n C.1 C.2.1 hd hi S.2.2.1 hn (a_lm_s1 _ _ _ (vi x)) (fun ls' hl' => ?_)
  exact k p e s m args below meth c n0 u0 H locs ls' C (S.loc hl' (a_s1_ok S.2.2.2.1 (ok1 hs)) (okt hs))
theorem aw_istore {i : Nat} {x : Int} (hd : decode (a_cc M) pc = .ok (.istore i, 2)) (hn : i < a_ml M) (hl : a_s1 lv i (vi x) = lv') (k : AW l G M P (pc + 2) lv' st h) : AW l G M P pc lv (vi x :: st) h := by
  intro p e s m args below meth c n0 u0 H locs ls C S
  have hs := S.ok
  subst hl
  refine lv_istore C.1 C.2.1 hd S.2.2.1 hn (a_lm_s1 _ _ _ (vi x)) (fun ls' hl' => ?_)
  exact k p e s m args below meth c n0 u0 H locs ls' C (S.loc hl' (a_s1_ok S.2.2.2.1 (ok1 hs)) (okt hs))
theorem aw_lstore_n {k : Fin 4} {i : Nat} {x : Int} (hd : decode (a_cc M) pc = .ok (.lstore_n k, 1)) (hi : (k : Nat) = i) (hn : i + 1 < a_ml M) (hl : a_s2 lv i (vl x) = lv') (k : AW l G M P (pc + 1) lv' st h) : AW l G M P pc lv (vl x :: st) h := by
  intro p e s m args below meth c n0 u0 H locs ls C S
  have hs := S.ok
  subst hl
  refine lv_lstore_n C.1 C.2.1 hd hi S.2.2.1 hn (a_lm_s2 _ _ _ (vl x)) (fun ls' hl' => ?_)
  exact k p e s m args below meth c n0 u0 H locs ls' C (S.loc hl' (a_s2_ok S.2.2.2.1 (ok1 hs)) (okt hs))
theorem aw_lstore {i : Nat} {x : Int} (hd : decode (a_cc M) pc = .ok (.lstore i, 2)) (hn : i + 1 < a_ml M) (hl : a_s2 lv i (vl x) = lv') (k : AW l G M P (pc + 2) lv' st h) : AW l G M P pc lv (vl x :: st) h := by
  intro p e s m args below meth c n0 u0 H locs ls C S
  have hs := S.ok
  subst hl
  refine lv_lstore C.1 C.2.1 hd S.2.2.1 hn (a_lm_s2 _ _ _ (vl x)) (fun ls' hl' => ?_)
  exact k p e s m args below meth c n0 u0 H locs ls' C (S.loc hl' (a_s2_ok S.2.2.2.1 (ok1 hs)) (okt hs))
theorem aw_astore_n {k : Fin 4} {i : Nat} {x : Nat} (hd : decode (a_cc M) pc = .ok (.astore_n k, 1)) (hi : (k : Nat) = i) (hn : i < a_ml M) (hl : a_s1 lv i (vr x) = lv') (k : AW l G M P (pc + 1) lv' st h) : AW l G M P pc lv (vr x :: st) h := by
  intro p e s m args below meth c n0 u0 H locs ls C S
  have hs := S.ok
  subst hl
  refine lv_astore_n C.1 C.2.1 hd hi S.2.2.1 hn (a_lm_s1 _ _ _ (vr x)) (fun ls' hl' => ?_)
  exact k p e s m args below meth c n0 u0 H locs ls' C (S.loc hl' (a_s1_ok S.2.2.2.1 (ok1 hs)) (okt hs))
theorem aw_astore {i : Nat} {x : Nat} (hd : decode (a_cc M) pc = .ok (.astore i, 2)) (hn : i < a_ml M) (hl : a_s1 lv i (vr x) = lv') (k : AW l G M P (pc + 2) lv' st h) : AW l G M P pc lv (vr x :: st) h := by
  intro p e s m args below meth c n0 u0 H locs ls C S
  have hs := S.ok
  subst hl
  refine lv_astore C.1 C.2.1 hd S.2.2.1 hn (a_lm_s1 _ _ _ (vr x)) (fun ls' hl' => ?_)
  exact k p e s m args below meth c n0 u0 H locs ls' C (S.loc hl' (a_s1_ok S.2.2.2.1 (ok1 hs)) (okt hs))
theorem aw_iinc {i : Nat} {n x : Int} (hd : decode (a_cc M) pc = .ok (.iinc i n, 3)) (hx : a_lk lv i = some (vi x)) (hn : i < a_ml M) (hl : a_s1 lv i (vi (a_w32 (x + n))) = lv') (k : AW l G M P (pc + 3) lv' st h) : AW l G M P pc lv st h := by
  intro p e s m args below meth c n0 u0 H locs ls C S
  have hs := S.ok
  subst hl
  obtain ⟨j, hj⟩ := List.mem_iff_getElem?.mp (List.mem_map.mpr ⟨_, a_lk_mem hx, rfl⟩ : (i, a_cv (a_rh G) (vi x)) ∈ a_lm (a_rh G) lv)
  refine lv_iinc (k := j) (v := Int32.ofInt (a_w32 (x + n))) C.1 C.2.1 hd S.2.2.1 hj (by rw [a_o32, Int32.ofInt_add]) hn (a_lm_s1 _ _ _ (vi (a_w32 (x + n)))) (fun ls' hl' => ?_)
  exact k p e s m args below meth c n0 u0 H locs ls' C (S.loc hl' (a_s1_ok S.2.2.2.1 (a_w32_in _)) hs)
theorem aw_iincW {i : Nat} {n x : Int} (hd : decode (a_cc M) pc = .ok (.iinc i n, 6)) (hx : a_lk lv i = some (vi x)) (hn : i < a_ml M) (hl : a_s1 lv i (vi (a_w32 (x + n))) = lv') (k : AW l G M P (pc + 6) lv' st h) : AW l G M P pc lv st h := by
  intro p e s m args below meth c n0 u0 H locs ls C S
  have hs := S.ok
  subst hl
  obtain ⟨j, hj⟩ := List.mem_iff_getElem?.mp (List.mem_map.mpr ⟨_, a_lk_mem hx, rfl⟩ : (i, a_cv (a_rh G) (vi x)) ∈ a_lm (a_rh G) lv)
  refine lv_iincW (k := j) (v := Int32.ofInt (a_w32 (x + n))) C.1 C.2.1 hd S.2.2.1 hj (by rw [a_o32, Int32.ofInt_add]) hn (a_lm_s1 _ _ _ (vi (a_w32 (x + n)))) (fun ls' hl' => ?_)
  exact k p e s m args below meth c n0 u0 H locs ls' C (S.loc hl' (a_s1_ok S.2.2.2.1 (a_w32_in _)) hs)
theorem aw_iadd {x y : Int} (hd : decode (a_cc M) pc = .ok (.iadd, 1)) (k : AW l G M P (pc + 1) lv (vi (a_w32 (x + y)) :: st) h) : AW l G M P pc lv (vi y :: vi x :: st) h := by
  intro p e s m args below meth c n0 u0 H locs ls C S
  have hs := S.ok
  have kk := k p e s m args below meth c n0 u0 H locs ls C (S.st (okc (a_w32_in _) (okt (okt hs))))
  refine lv_iadd C.1 C.2.1 hd ?_
  rw [← Int32.ofInt_add, ← a_o32]
  exact kk
theorem aw_isub {x y : Int} (hd : decode (a_cc M) pc = .ok (.isub, 1)) (k : AW l G M P (pc + 1) lv (vi (a_w32 (x - y)) :: st) h) : AW l G M P pc lv (vi y :: vi x :: st) h := by
  intro p e s m args below meth c n0 u0 H locs ls C S
  have hs := S.ok
  have kk := k p e s m args below meth c n0 u0 H locs ls C (S.st (okc (a_w32_in _) (okt (okt hs))))
  refine lv_isub C.1 C.2.1 hd ?_
  rw [← Int32.ofInt_sub, ← a_o32]
  exact kk
theorem aw_imul {x y : Int} (hd : decode (a_cc M) pc = .ok (.imul, 1)) (k : AW l G M P (pc + 1) lv (vi (a_w32 (x * y)) :: st) h) : AW l G M P pc lv (vi y :: vi x :: st) h := by
  intro p e s m args below meth c n0 u0 H locs ls C S
  have hs := S.ok
  have kk := k p e s m args below meth c n0 u0 H locs ls C (S.st (okc (a_w32_in _) (okt (okt hs))))
  refine lv_imul C.1 C.2.1 hd ?_
  rw [← Int32.ofInt_mul, ← a_o32]
  exact kk
theorem aw_ladd {x y : Int} (hd : decode (a_cc M) pc = .ok (.ladd, 1)) (k : AW l G M P (pc + 1) lv (vl (a_w64 (x + y)) :: st) h) : AW l G M P pc lv (vl y :: vl x :: st) h := by
  intro p e s m args below meth c n0 u0 H locs ls C S
  have hs := S.ok
  have kk := k p e s m args below meth c n0 u0 H locs ls C (S.st (okc (a_w64_in _) (okt (okt hs))))
  refine lv_ladd C.1 C.2.1 hd ?_
  rw [← Int64.ofInt_add, ← a_o64]
  exact kk
theorem aw_lsub {x y : Int} (hd : decode (a_cc M) pc = .ok (.lsub, 1)) (k : AW l G M P (pc + 1) lv (vl (a_w64 (x - y)) :: st) h) : AW l G M P pc lv (vl y :: vl x :: st) h := by
  intro p e s m args below meth c n0 u0 H locs ls C S
  have hs := S.ok
  have kk := k p e s m args below meth c n0 u0 H locs ls C (S.st (okc (a_w64_in _) (okt (okt hs))))
  refine lv_lsub C.1 C.2.1 hd ?_
  rw [← Int64.ofInt_sub, ← a_o64]
  exact kk
theorem aw_lmul {x y : Int} (hd : decode (a_cc M) pc = .ok (.lmul, 1)) (k : AW l G M P (pc + 1) lv (vl (a_w64 (x * y)) :: st) h) : AW l G M P pc lv (vl y :: vl x :: st) h := by
  intro p e s m args below meth c n0 u0 H locs ls C S
  have hs := S.ok
  have kk := k p e s m args below meth c n0 u0 H locs ls C (S.st (okc (a_w64_in _) (okt (okt hs))))
  refine lv_lmul C.1 C.2.1 hd ?_
  rw [← Int64.ofInt_mul, ← a_o64]
  exact kk
theorem aw_iand {x y : Int} (hd : decode (a_cc M) pc = .ok (.iand, 1)) (k : AW l G M P (pc + 1) lv (vi (a_and x y) :: st) h) : AW l G M P pc lv (vi y :: vi x :: st) h := by
  intro p e s m args below meth c n0 u0 H locs ls C S
  have hs := S.ok
  have kk := k p e s m args below meth c n0 u0 H locs ls C (S.st (okc (a_ok32 _) (okt (okt hs))))
  refine lv_iand C.1 C.2.1 hd ?_
  rw [show Int32.ofInt x &&& Int32.ofInt y = Int32.ofInt (a_and x y) from (Int32.ofInt_toInt _).symm]
  exact kk
theorem aw_ior {x y : Int} (hd : decode (a_cc M) pc = .ok (.ior, 1)) (k : AW l G M P (pc + 1) lv (vi (a_or x y) :: st) h) : AW l G M P pc lv (vi y :: vi x :: st) h := by
  intro p e s m args below meth c n0 u0 H locs ls C S
  have hs := S.ok
  have kk := k p e s m args below meth c n0 u0 H locs ls C (S.st (okc (a_ok32 _) (okt (okt hs))))
  refine lv_ior C.1 C.2.1 hd ?_
  rw [show Int32.ofInt x ||| Int32.ofInt y = Int32.ofInt (a_or x y) from (Int32.ofInt_toInt _).symm]
  exact kk
theorem aw_ixor {x y : Int} (hd : decode (a_cc M) pc = .ok (.ixor, 1)) (k : AW l G M P (pc + 1) lv (vi (a_xor x y) :: st) h) : AW l G M P pc lv (vi y :: vi x :: st) h := by
  intro p e s m args below meth c n0 u0 H locs ls C S
  have hs := S.ok
  have kk := k p e s m args below meth c n0 u0 H locs ls C (S.st (okc (a_ok32 _) (okt (okt hs))))
  refine lv_ixor C.1 C.2.1 hd ?_
  rw [show Int32.ofInt x ^^^ Int32.ofInt y = Int32.ofInt (a_xor x y) from (Int32.ofInt_toInt _).symm]
  exact kk
theorem aw_land {x y : Int} (hd : decode (a_cc M) pc = .ok (.land, 1)) (k : AW l G M P (pc + 1) lv (vl (a_land x y) :: st) h) : AW l G M P pc lv (vl y :: vl x :: st) h := by
  intro p e s m args below meth c n0 u0 H locs ls C S
  have hs := S.ok
  have kk := k p e s m args below meth c n0 u0 H locs ls C (S.st (okc (a_ok64 _) (okt (okt hs))))
  refine lv_land C.1 C.2.1 hd ?_
  rw [show Int64.ofInt x &&& Int64.ofInt y = Int64.ofInt (a_land x y) from (Int64.ofInt_toInt _).symm]
  exact kk
theorem aw_lor {x y : Int} (hd : decode (a_cc M) pc = .ok (.lor, 1)) (k : AW l G M P (pc + 1) lv (vl (a_lor x y) :: st) h) : AW l G M P pc lv (vl y :: vl x :: st) h := by
  intro p e s m args below meth c n0 u0 H locs ls C S
  have hs := S.ok
  have kk := k p e s m args below meth c n0 u0 H locs ls C (S.st (okc (a_ok64 _) (okt (okt hs))))
  refine lv_lor C.1 C.2.1 hd ?_
  rw [show Int64.ofInt x ||| Int64.ofInt y = Int64.ofInt (a_lor x y) from (Int64.ofInt_toInt _).symm]
  exact kk
theorem aw_lxor {x y : Int} (hd : decode (a_cc M) pc = .ok (.lxor, 1)) (k : AW l G M P (pc + 1) lv (vl (a_lxor x y) :: st) h) : AW l G M P pc lv (vl y :: vl x :: st) h := by
  intro p e s m args below meth c n0 u0 H locs ls C S
  have hs := S.ok
  have kk := k p e s m args below meth c n0 u0 H locs ls C (S.st (okc (a_ok64 _) (okt (okt hs))))
  refine lv_lxor C.1 C.2.1 hd ?_
  rw [show Int64.ofInt x ^^^ Int64.ofInt y = Int64.ofInt (a_lxor x y) from (Int64.ofInt_toInt _).symm]
  exact kk
theorem aw_ishl {x y : Int} (hd : decode (a_cc M) pc = .ok (.ishl, 1)) (k : AW l G M P (pc + 1) lv (vi (a_shl x y) :: st) h) : AW l G M P pc lv (vi y :: vi x :: st) h := by
  intro p e s m args below meth c n0 u0 H locs ls C S
  have hs := S.ok
  have kk := k p e s m args below meth c n0 u0 H locs ls C (S.st (okc (a_ok32 _) (okt (okt hs))))
  refine lv_ishl C.1 C.2.1 hd ?_
  rw [show Int32.ofInt x <<< (Int32.ofInt y &&& 31) = Int32.ofInt (a_shl x y) from (Int32.ofInt_toInt _).symm]
  exact kk
theorem aw_ishr {x y : Int} (hd : decode (a_cc M) pc = .ok (.ishr, 1)) (k : AW l G M P (pc + 1) lv (vi (a_shr x y) :: st) h) : AW l G M P pc lv (vi y :: vi x :: st) h := by
  intro p e s m args below meth c n0 u0 H locs ls C S
  have hs := S.ok
  have kk := k p e s m args below meth c n0 u0 H locs ls C (S.st (okc (a_ok32 _) (okt (okt hs))))
  refine lv_ishr C.1 C.2.1 hd ?_
  rw [show Int32.ofInt x >>> (Int32.ofInt y &&& 31) = Int32.ofInt (a_shr x y) from (Int32.ofInt_toInt _).symm]
  exact kk
theorem aw_iushr {x y : Int} (hd : decode (a_cc M) pc = .ok (.iushr, 1)) (k : AW l G M P (pc + 1) lv (vi (a_ushr x y) :: st) h) : AW l G M P pc lv (vi y :: vi x :: st) h := by
  intro p e s m args below meth c n0 u0 H locs ls C S
  have hs := S.ok
  have kk := k p e s m args below meth c n0 u0 H locs ls C (S.st (okc (a_ok32 _) (okt (okt hs))))
  refine lv_iushr C.1 C.2.1 hd (v := Int32.ofInt (a_ushr x y)) (Int32.ofInt_toInt _).symm ?_
  exact kk
theorem aw_idiv {x y : Int} (hd : decode (a_cc M) pc = .ok (.idiv, 1)) (h0 : y ≠ 0) (k : AW l G M P (pc + 1) lv (vi (a_w32 (x.tdiv y)) :: st) h) : AW l G M P pc lv (vi y :: vi x :: st) h := by
  intro p e s m args below meth c n0 u0 H locs ls C S
  have hs := S.ok
  have kk := k p e s m args below meth c n0 u0 H locs ls C (S.st (okc (a_w32_in _) (okt (okt hs))))
  refine lv_idiv C.1 C.2.1 hd (a_ne0 (ok1 hs) h0) ?_
  rw [a_div32 (ok2 hs) (ok1 hs)]
  exact kk
theorem aw_irem {x y : Int} (hd : decode (a_cc M) pc = .ok (.irem, 1)) (h0 : y ≠ 0) (k : AW l G M P (pc + 1) lv (vi (x.tmod y) :: st) h) : AW l G M P pc lv (vi y :: vi x :: st) h := by
  intro p e s m args below meth c n0 u0 H locs ls C S
  have hs := S.ok
  have kk := k p e s m args below meth c n0 u0 H locs ls C (S.st (okc (a_remok (ok2 hs) (ok1 hs)) (okt (okt hs))))
  refine lv_irem C.1 C.2.1 hd (a_ne0 (ok1 hs) h0) ?_
  rw [a_rem32 (ok2 hs) (ok1 hs)]
  exact kk
theorem aw_lrem {x y : Int} (hd : decode (a_cc M) pc = .ok (.lrem, 1)) (h0 : y ≠ 0) (k : AW l G M P (pc + 1) lv (vl (x.tmod y) :: st) h) : AW l G M P pc lv (vl y :: vl x :: st) h := by
  intro p e s m args below meth c n0 u0 H locs ls C S
  have hs := S.ok
  have kk := k p e s m args below meth c n0 u0 H locs ls C (S.st (okc (a_remokL (ok2 hs) (ok1 hs)) (okt (okt hs))))
  refine lv_lrem C.1 C.2.1 hd (a_ne0L (ok1 hs) h0) ?_
  rw [a_rem64 (ok2 hs) (ok1 hs)]
  exact kk
theorem aw_lshl {x y : Int} (hd : decode (a_cc M) pc = .ok (.lshl, 1)) (k : AW l G M P (pc + 1) lv (vl (a_lshl x y) :: st) h) : AW l G M P pc lv (vi y :: vl x :: st) h := by
  intro p e s m args below meth c n0 u0 H locs ls C S
  have hs := S.ok
  have kk := k p e s m args below meth c n0 u0 H locs ls C (S.st (okc (a_ok64 _) (okt (okt hs))))
  refine lv_lshl (v := Int64.ofInt (a_lshl x y)) C.1 C.2.1 hd (Int64.ofInt_toInt _).symm ?_
  exact kk
theorem aw_lushr {x y : Int} (hd : decode (a_cc M) pc = .ok (.lushr, 1)) (k : AW l G M P (pc + 1) lv (vl (a_lushr x y) :: st) h) : AW l G M P pc lv (vi y :: vl x :: st) h := by
  intro p e s m args below meth c n0 u0 H locs ls C S
  have hs := S.ok
  have kk := k p e s m args below meth c n0 u0 H locs ls C (S.st (okc (a_ok64 _) (okt (okt hs))))
  refine lv_lushr (v := Int64.ofInt (a_lushr x y)) C.1 C.2.1 hd (Int64.ofInt_toInt _).symm ?_
  exact kk
theorem aw_ineg {x : Int} (hd : decode (a_cc M) pc = .ok (.ineg, 1)) (k : AW l G M P (pc + 1) lv (vi (a_w32 (-x)) :: st) h) : AW l G M P pc lv (vi x :: st) h := by
  intro p e s m args below meth c n0 u0 H locs ls C S
  have hs := S.ok
  have kk := k p e s m args below meth c n0 u0 H locs ls C (S.st (okc (a_w32_in _) (okt hs)))
  refine lv_ineg C.1 C.2.1 hd ?_
  rw [← Int32.ofInt_neg, ← a_o32]
  exact kk
theorem aw_i2l {x : Int} (hd : decode (a_cc M) pc = .ok (.i2l, 1)) (k : AW l G M P (pc + 1) lv (vl x :: st) h) : AW l G M P pc lv (vi x :: st) h := by
  intro p e s m args below meth c n0 u0 H locs ls C S
  have hs := S.ok
  have kk := k p e s m args below meth c n0 u0 H locs ls C (S.st (okc (by have := ok1 hs; unfold okv okI at this; unfold okv okL; omega) (okt hs)))
  refine lv_i2l (v := Int64.ofInt x) C.1 C.2.1 hd (a_i2l (ok1 hs)) ?_
  exact kk
theorem aw_l2i {x : Int} (hd : decode (a_cc M) pc = .ok (.l2i, 1)) (k : AW l G M P (pc + 1) lv (vi (a_w32 x) :: st) h) : AW l G M P pc lv (vl x :: st) h := by
  intro p e s m args below meth c n0 u0 H locs ls C S
  have hs := S.ok
  have kk := k p e s m args below meth c n0 u0 H locs ls C (S.st (okc (a_w32_in _) (okt hs)))
  refine lv_l2i (v := Int32.ofInt (a_w32 x)) C.1 C.2.1 hd (a_l2i (ok1 hs)) ?_
  exact kk
theorem aw_i2b {x : Int} (hd : decode (a_cc M) pc = .ok (.i2b, 1)) (k : AW l G M P (pc + 1) lv (vi (a_w8 x) :: st) h) : AW l G M P pc lv (vi x :: st) h := by
  intro p e s m args below meth c n0 u0 H locs ls C S
  have hs := S.ok
  have kk := k p e s m args below meth c n0 u0 H locs ls C (S.st (okc (a_w8ok _) (okt hs)))
  refine lv_i2b (v := Int32.ofInt (a_w8 x)) C.1 C.2.1 hd (a_i2b (ok1 hs)) ?_
  exact kk
theorem a_lcmp_in (x y : Int) : okI (a_lcmp x y) := by
  unfold okI a_lcmp
  split
  · omega
  · split <;> omega
theorem a_lcmp_ok {x y : Int} (hx : okL x) (hy : okL y) : lg_cmp (Int64.ofInt x) (Int64.ofInt y) = Int32.ofInt (a_lcmp x y) := by
  unfold lg_cmp a_lcmp
  have h1 := a_ltL hx hy
  have h2 := a_eqL hx hy
  have h3 := a_ltL hy hx
  by_cases q1 : x < y
  · have e1 : ¬ Int64.ofInt y < Int64.ofInt x := fun q => by have := h3.mp q; omega
    have e2 : ¬ Int64.ofInt x = Int64.ofInt y := fun q => by have := h2.mp q; omega
    simp [e1, e2, q1]
  · by_cases q2 : x = y
    · simp [q2]
    · have q3 : y < x := by omega
      have e1 : ¬ Int64.ofInt x < Int64.ofInt y := fun q => q1 (h1.mp q)
      have e2 : ¬ Int64.ofInt x = Int64.ofInt y := fun q => q2 (h2.mp q)
      simp [e1, e2, q1, q2, h3.mpr q3]
theorem aw_lcmp {x y : Int} (hd : decode (a_cc M) pc = .ok (.lcmp, 1)) (k : AW l G M P (pc + 1) lv (vi (a_lcmp x y) :: st) h) : AW l G M P pc lv (vl y :: vl x :: st) h := by
  intro p e s m args below meth c n0 u0 H locs ls C S
  have hs := S.ok
  have kk := k p e s m args below meth c n0 u0 H locs ls C (S.st (okc (a_lcmp_in _ _) (okt (okt hs))))
  refine W.lcmp C.1 C.2.1 hd ?_
  rw [a_lcmp_ok (ok2 hs) (ok1 hs)]
  exact kk
theorem aw_dup {v : AV} (hd : decode (a_cc M) pc = .ok (.dup, 1)) (hv : a_c2 v = false) (k : AW l G M P (pc + 1) lv (v :: v :: st) h) : AW l G M P pc lv (v :: st) h := by
  intro p e s m args below meth c n0 u0 H locs ls C S
  have hs := S.ok
  have kk := k p e s m args below meth c n0 u0 H locs ls C (S.st (okc (ok1 hs) hs))
  refine lv_dup C.1 C.2.1 hd (a_cat1 hv) ?_
  exact kk
theorem aw_pop {v : AV} (hd : decode (a_cc M) pc = .ok (.pop, 1)) (hv : a_c2 v = false) (k : AW l G M P (pc + 1) lv (st) h) : AW l G M P pc lv (v :: st) h := by
  intro p e s m args below meth c n0 u0 H locs ls C S
  have hs := S.ok
  have kk := k p e s m args below meth c n0 u0 H locs ls C (S.st (okt hs))
  refine lv_pop C.1 C.2.1 hd (a_cat1 hv) ?_
  exact kk
theorem aw_dup2 {v w : AV} (hd : decode (a_cc M) pc = .ok (.dup2, 1)) (hv : a_c2 v = false) (hw : a_c2 w = false) (k : AW l G M P (pc + 1) lv (v :: w :: v :: w :: st) h) : AW l G M P pc lv (v :: w :: st) h := by
  intro p e s m args below meth c n0 u0 H locs ls C S
  have hs := S.ok
  have kk := k p e s m args below meth c n0 u0 H locs ls C (S.st (okc (ok1 hs) (okc (ok2 hs) hs)))
  refine lv_dup2_11 C.1 C.2.1 hd (a_cat1 hv) (a_cat1 hw) ?_
  exact kk
theorem aw_dup2L {x : Int} (hd : decode (a_cc M) pc = .ok (.dup2, 1)) (k : AW l G M P (pc + 1) lv (vl x :: vl x :: st) h) : AW l G M P pc lv (vl x :: st) h := by
  intro p e s m args below meth c n0 u0 H locs ls C S
  have hs := S.ok
  have kk := k p e s m args below meth c n0 u0 H locs ls C (S.st (okc (ok1 hs) hs))
  refine lv_dup2_2 C.1 C.2.1 hd rfl ?_
  exact kk
theorem aw_goto {off : Int} {tgt : Nat} (hd : decode (a_cc M) pc = .ok (.goto off, 3)) (ht : (pc : Int) + off = (tgt : Int)) (k : AW l G M P tgt lv st h) : AW l G M P pc lv st h := by
  intro p e s m args below meth c n0 u0 H locs ls C S
  exact lv_goto C.1 C.2.1 hd ht (k p e s m args below meth c n0 u0 H locs ls C S)
theorem aw_icmp_eq {x y : Int} {off : Int} {tgt : Nat} (hd : decode (a_cc M) pc = .ok (.if_icmp .eq off, 3)) (ht : (pc : Int) + off = (tgt : Int)) (kt : x = y → AW l G M P tgt lv st h) (kf : ¬ x = y → AW l G M P (pc + 3) lv st h) : AW l G M P pc lv (vi y :: vi x :: st) h := by
  intro p e s m args below meth c n0 u0 H locs ls C S
  have hs := S.ok
  have hq := a_eq (ok2 hs) (ok1 hs)
  have S' := S.st (okt (okt hs))
  exact lv_icmp_eq C.1 C.2.1 hd ht (fun q => kt (hq.mp q) p e s m args below meth c n0 u0 H locs ls C S') (fun q => kf (fun r => q (hq.mpr r)) p e s m args below meth c n0 u0 H locs ls C S')
theorem aw_if_eq {x : Int} {off : Int} {tgt : Nat} (hd : decode (a_cc M) pc = .ok (.ifCond .eq off, 3)) (ht : (pc : Int) + off = (tgt : Int)) (kt : x = 0 → AW l G M P tgt lv st h) (kf : ¬ x = 0 → AW l G M P (pc + 3) lv st h) : AW l G M P pc lv (vi x :: st) h := by
  intro p e s m args below meth c n0 u0 H locs ls C S
  have hs := S.ok
  have hq := a_eq (ok1 hs) a_zI
  have S' := S.st (okt hs)
  exact lv_if_eq C.1 C.2.1 hd ht (fun q => kt (hq.mp q) p e s m args below meth c n0 u0 H locs ls C S') (fun q => kf (fun r => q (hq.mpr r)) p e s m args below meth c n0 u0 H locs ls C S')
theorem aw_icmp_ne {x y : Int} {off : Int} {tgt : Nat} (hd : decode (a_cc M) pc = .ok (.if_icmp .ne off, 3)) (ht : (pc : Int) + off = (tgt : Int)) (kt : ¬ x = y → AW l G M P tgt lv st h) (kf : x = y → AW l G M P (pc + 3) lv st h) : AW l G M P pc lv (vi y :: vi x :: st) h := by
  intro p e s m args below meth c n0 u0 H locs ls C S
  have hs := S.ok
  have hq := a_eq (ok2 hs) (ok1 hs)
  have S' := S.st (okt (okt hs))
  exact lv_icmp_ne C.1 C.2.1 hd ht (fun q => kt (fun r => q (hq.mpr r)) p e s m args below meth c n0 u0 H locs ls C S') (fun q => kf (hq.mp q) p e s m args below meth c n0 u0 H locs ls C S')
theorem aw_if_ne {x : Int} {off : Int} {tgt : Nat} (hd : decode (a_cc M) pc = .ok (.ifCond .ne off, 3)) (ht : (pc : Int) + off = (tgt : Int)) (kt : ¬ x = 0 → AW l G M P tgt lv st h) (kf : x = 0 → AW l G M P (pc + 3) lv st h) : AW l G M P pc lv (vi x :: st) h := by
  intro p e s m args below meth c n0 u0 H locs ls C S
  have hs := S.ok
  have hq := a_eq (ok1 hs) a_zI
  have S' := S.st (okt hs)
  exact lv_if_ne C.1 C.2.1 hd ht (fun q => kt (fun r => q (hq.mpr r)) p e s m args below meth c n0 u0 H locs ls C S') (fun q => kf (hq.mp q) p e s m args below meth c n0 u0 H locs ls C S')
theorem aw_icmp_lt {x y : Int} {off : Int} {tgt : Nat} (hd : decode (a_cc M) pc = .ok (.if_icmp .lt off, 3)) (ht : (pc : Int) + off = (tgt : Int)) (kt : x < y → AW l G M P tgt lv st h) (kf : ¬ x < y → AW l G M P (pc + 3) lv st h) : AW l G M P pc lv (vi y :: vi x :: st) h := by
  intro p e s m args below meth c n0 u0 H locs ls C S
  have hs := S.ok
  have hq := a_lt (ok2 hs) (ok1 hs)
  have S' := S.st (okt (okt hs))
  exact lv_icmp_lt C.1 C.2.1 hd ht (fun q => kt (hq.mp q) p e s m args below meth c n0 u0 H locs ls C S') (fun q => kf (fun r => q (hq.mpr r)) p e s m args below meth c n0 u0 H locs ls C S')
theorem aw_if_lt {x : Int} {off : Int} {tgt : Nat} (hd : decode (a_cc M) pc = .ok (.ifCond .lt off, 3)) (ht : (pc : Int) + off = (tgt : Int)) (kt : x < 0 → AW l G M P tgt lv st h) (kf : ¬ x < 0 → AW l G M P (pc + 3) lv st h) : AW l G M P pc lv (vi x :: st) h := by
  intro p e s m args below meth c n0 u0 H locs ls C S
  have hs := S.ok
  have hq := a_lt (ok1 hs) a_zI
  have S' := S.st (okt hs)
  exact lv_if_lt C.1 C.2.1 hd ht (fun q => kt (hq.mp q) p e s m args below meth c n0 u0 H locs ls C S') (fun q => kf (fun r => q (hq.mpr r)) p e s m args below meth c n0 u0 H locs ls C S')
theorem aw_icmp_ge {x y : Int} {off : Int} {tgt : Nat} (hd : decode (a_cc M) pc = .ok (.if_icmp .ge off, 3)) (ht : (pc : Int) + off = (tgt : Int)) (kt : y ≤ x → AW l G M P tgt lv st h) (kf : ¬ y ≤ x → AW l G M P (pc + 3) lv st h) : AW l G M P pc lv (vi y :: vi x :: st) h := by
  intro p e s m args below meth c n0 u0 H locs ls C S
  have hs := S.ok
  have hq := a_le (ok1 hs) (ok2 hs)
  have S' := S.st (okt (okt hs))
  exact lv_icmp_ge C.1 C.2.1 hd ht (fun q => kt (hq.mp q) p e s m args below meth c n0 u0 H locs ls C S') (fun q => kf (fun r => q (hq.mpr r)) p e s m args below meth c n0 u0 H locs ls C S')
theorem aw_if_ge {x : Int} {off : Int} {tgt : Nat} (hd : decode (a_cc M) pc = .ok (.ifCond .ge off, 3)) (ht : (pc : Int) + off = (tgt : Int)) (kt : 0 ≤ x → AW l G M P tgt lv st h) (kf : ¬ 0 ≤ x → AW l G M P (pc + 3) lv st h) : AW l G M P pc lv (vi x :: st) h := by
  intro p e s m args below meth c n0 u0 H locs ls C S
  have hs := S.ok
  have hq := a_le a_zI (ok1 hs)
  have S' := S.st (okt hs)
  exact lv_if_ge C.1 C.2.1 hd ht (fun q => kt (hq.mp q) p e s m args below meth c n0 u0 H locs ls C S') (fun q => kf (fun r => q (hq.mpr r)) p e s m args below meth c n0 u0 H locs ls C S')
theorem aw_icmp_gt {x y : Int} {off : Int} {tgt : Nat} (hd : decode (a_cc M) pc = .ok (.if_icmp .gt off, 3)) (ht : (pc : Int) + off = (tgt : Int)) (kt : y < x → AW l G M P tgt lv st h) (kf : ¬ y < x → AW l G M P (pc + 3) lv st h) : AW l G M P pc lv (vi y :: vi x :: st) h := by
  intro p e s m args below meth c n0 u0 H locs ls C S
  have hs := S.ok
  have hq := a_lt (ok1 hs) (ok2 hs)
  have S' := S.st (okt (okt hs))
  exact lv_icmp_gt C.1 C.2.1 hd ht (fun q => kt (hq.mp q) p e s m args below meth c n0 u0 H locs ls C S') (fun q => kf (fun r => q (hq.mpr r)) p e s m args below meth c n0 u0 H locs ls C S')
theorem aw_if_gt {x : Int} {off : Int} {tgt : Nat} (hd : decode (a_cc M) pc = .ok (.ifCond .gt off, 3)) (ht : (pc : Int) + off = (tgt : Int)) (kt : 0 < x → AW l G M P tgt lv st h) (kf : ¬ 0 < x → AW l G M P (pc + 3) lv st h) : AW l G M P pc lv (vi x :: st) h := by
  intro p e s m args below meth c n0 u0 H locs ls C S
  have hs := S.ok
  have hq := a_lt a_zI (ok1 hs)
  have S' := S.st (okt hs)
  exact lv_if_gt C.1 C.2.1 hd ht (fun q => kt (hq.mp q) p e s m args below meth c n0 u0 H locs ls C S') (fun q => kf (fun r => q (hq.mpr r)) p e s m args below meth c n0 u0 H locs ls C S')
theorem aw_icmp_le {x y : Int} {off : Int} {tgt : Nat} (hd : decode (a_cc M) pc = .ok (.if_icmp .le off, 3)) (ht : (pc : Int) + off = (tgt : Int)) (kt : x ≤ y → AW l G M P tgt lv st h) (kf : ¬ x ≤ y → AW l G M P (pc + 3) lv st h) : AW l G M P pc lv (vi y :: vi x :: st) h := by
  intro p e s m args below meth c n0 u0 H locs ls C S
  have hs := S.ok
  have hq := a_le (ok2 hs) (ok1 hs)
  have S' := S.st (okt (okt hs))
  exact lv_icmp_le C.1 C.2.1 hd ht (fun q => kt (hq.mp q) p e s m args below meth c n0 u0 H locs ls C S') (fun q => kf (fun r => q (hq.mpr r)) p e s m args below meth c n0 u0 H locs ls C S')
theorem aw_if_le {x : Int} {off : Int} {tgt : Nat} (hd : decode (a_cc M) pc = .ok (.ifCond .le off, 3)) (ht : (pc : Int) + off = (tgt : Int)) (kt : x ≤ 0 → AW l G M P tgt lv st h) (kf : ¬ x ≤ 0 → AW l G M P (pc + 3) lv st h) : AW l G M P pc lv (vi x :: st) h := by
  intro p e s m args below meth c n0 u0 H locs ls C S
  have hs := S.ok
  have hq := a_le (ok1 hs) a_zI
  have S' := S.st (okt hs)
  exact lv_if_le C.1 C.2.1 hd ht (fun q => kt (hq.mp q) p e s m args below meth c n0 u0 H locs ls C S') (fun q => kf (fun r => q (hq.mpr r)) p e s m args below meth c n0 u0 H locs ls C S')
theorem aw_tableOut {dflt lo hi : Int} {offs : Array Int} {len : Nat} {x : Int} {tgt : Nat} (hd : decode (a_cc M) pc = .ok (.tableswitch dflt lo hi offs, len)) (hx : x < lo ∨ hi < x) (ht : (pc : Int) + dflt = (tgt : Int)) (k : AW l G M P tgt lv st h) : AW l G M P pc lv (vi x :: st) h := by
  intro p e s m args below meth c n0 u0 H locs ls C S
  have hs := S.ok
  exact lv_tableOut C.1 C.2.1 hd (by rw [a_i32 (ok1 hs)]; exact hx) ht (k p e s m args below meth c n0 u0 H locs ls C (S.st (okt hs)))
theorem aw_tableIn {dflt lo hi : Int} {offs : Array Int} {len : Nat} {x off : Int} {tgt : Nat} (hd : decode (a_cc M) pc = .ok (.tableswitch dflt lo hi offs, len)) (h1 : lo ≤ x) (h2 : x ≤ hi) (ho : offs[(x - lo).toNat]? = some off) (ht : (pc : Int) + off = (tgt : Int)) (k : AW l G M P tgt lv st h) : AW l G M P pc lv (vi x :: st) h := by
  intro p e s m args below meth c n0 u0 H locs ls C S
  have hs := S.ok
  exact lv_tableIn C.1 C.2.1 hd (by rw [a_i32 (ok1 hs)]; omega) (by rw [a_i32 (ok1 hs)]; omega) (by rw [a_i32 (ok1 hs)]; exact ho) ht (k p e s m args below meth c n0 u0 H locs ls C (S.st (okt hs)))
theorem aw_ldc {n : Int} {i : Nat} (hd : decode (a_cc M) pc = .ok (.ldc i, 2)) (hw : Cond.constant (a_ow M) i (Int32.ofInt n) ∈ lw_tbl) (hn : okI n) (k : AW l G M P (pc + 2) lv (vi n :: st) h) : AW l G M P pc lv st h := by
  intro p e s m args below meth c n0 u0 H locs ls C S
  exact lv_ldc C.1 C.2.1 C.2.2.2.2.1 (C.2.2.2.2.2.1.at hw rfl _) hd (k p e s m args below meth c n0 u0 H locs ls C (S.st (okc hn S.ok)))
theorem aw_ldcw {n : Int} {i : Nat} (hd : decode (a_cc M) pc = .ok (.ldc_w i, 3)) (hw : Cond.constant (a_ow M) i (Int32.ofInt n) ∈ lw_tbl) (hn : okI n) (k : AW l G M P (pc + 3) lv (vi n :: st) h) : AW l G M P pc lv st h := by
  intro p e s m args below meth c n0 u0 H locs ls C S
  exact lv_ldcw C.1 C.2.1 C.2.2.2.2.1 (C.2.2.2.2.2.1.at hw rfl _) hd (k p e s m args below meth c n0 u0 H locs ls C (S.st (okc hn S.ok)))
theorem aw_ldc2 {n : Int} {i : Nat} (hd : decode (a_cc M) pc = .ok (.ldc2_w i, 3)) (hw : Cond.constantLong (a_ow M) i (Int64.ofInt n) ∈ lw_tbl) (hn : okL n) (k : AW l G M P (pc + 3) lv (vl n :: st) h) : AW l G M P pc lv st h := by
  intro p e s m args below meth c n0 u0 H locs ls C S
  exact lv_ldc2 C.1 C.2.1 C.2.2.2.2.1 (C.2.2.2.2.2.1.at hw rfl _) hd (k p e s m args below meth c n0 u0 H locs ls C (S.st (okc hn S.ok)))
end AR
