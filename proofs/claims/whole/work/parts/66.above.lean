/-! the shape while constants() runs; above -/
def Shq (h : Hp) : Prop := (∀ a, a < 268 → hK h a = tK a) ∧ (∀ a, a < 268 → a ≠ 11 → hN h a = (tN a : Nat)) ∧ (∀ q ∈ tRl, hR h q.1 q.2.1 = some q.2.2) ∧ hX h = 268
theorem Shq.out {h : Hp} (S : Shq h) : Shp (wN h 4 1) := by
  obtain ⟨s1, s2, s3, s4⟩ := S
  have hlt : ∀ p ∈ tRl, p.1 < 268 := by decide +kernel
  refine ⟨fun a ha => ?_, fun a ha h11 => ?_, fun p hp => ?_, ?_⟩
  · show (if a = hX h then 4 else hK h a) = _
    by_cases c : a = 268
    · rw [s4, if_pos c, c]; decide +kernel
    · rw [s4, if_neg c, s1 a (by omega)]
  · show (if a = hX h then ((1 : Nat) : Int) else hN h a) = _
    by_cases c : a = 268
    · rw [s4, if_pos c, c]; decide +kernel
    · rw [s4, if_neg c, s2 a (by omega) h11]
  · show (if p.1 = hX h then none else hR h p.1 p.2.1) = _
    have := hlt p hp
    rw [s4, if_neg (by omega), s3 p hp]
  · show 269 ≤ hX h + 1
    omega
section SQ
variable {h : Hp}
theorem kq_175 (S : Shq h) : hK h 175 = 30 := (S.1 175 (by decide)).trans (by decide +kernel)
theorem nq_175 (S : Shq h) : hN h 175 = 44 := (S.2.1 175 (by decide) (by decide)).trans (by decide +kernel)
theorem kq_187 (S : Shq h) : hK h 187 = 4 := (S.1 187 (by decide)).trans (by decide +kernel)
theorem nq_187 (S : Shq h) : hN h 187 = 16 := (S.2.1 187 (by decide) (by decide)).trans (by decide +kernel)
theorem kq_188 (S : Shq h) : hK h 188 = 4 := (S.1 188 (by decide)).trans (by decide +kernel)
theorem nq_188 (S : Shq h) : hN h 188 = 80 := (S.2.1 188 (by decide) (by decide)).trans (by decide +kernel)
theorem kq_189 (S : Shq h) : hK h 189 = 4 := (S.1 189 (by decide)).trans (by decide +kernel)
theorem nq_189 (S : Shq h) : hN h 189 = 8 := (S.2.1 189 (by decide) (by decide)).trans (by decide +kernel)
theorem kq_190 (S : Shq h) : hK h 190 = 4 := (S.1 190 (by decide)).trans (by decide +kernel)
theorem nq_190 (S : Shq h) : hN h 190 = 8 := (S.2.1 190 (by decide) (by decide)).trans (by decide +kernel)
theorem kq_191 (S : Shq h) : hK h 191 = 4 := (S.1 191 (by decide)).trans (by decide +kernel)
theorem nq_191 (S : Shq h) : hN h 191 = 16 := (S.2.1 191 (by decide) (by decide)).trans (by decide +kernel)
theorem kq_192 (S : Shq h) : hK h 192 = 4 := (S.1 192 (by decide)).trans (by decide +kernel)
theorem nq_192 (S : Shq h) : hN h 192 = 16 := (S.2.1 192 (by decide) (by decide)).trans (by decide +kernel)
theorem kq_193 (S : Shq h) : hK h 193 = 1 := (S.1 193 (by decide)).trans (by decide +kernel)
theorem nq_193 (S : Shq h) : hN h 193 = 25 := (S.2.1 193 (by decide) (by decide)).trans (by decide +kernel)
theorem kq_194 (S : Shq h) : hK h 194 = 4 := (S.1 194 (by decide)).trans (by decide +kernel)
theorem nq_194 (S : Shq h) : hN h 194 = 24 := (S.2.1 194 (by decide) (by decide)).trans (by decide +kernel)
theorem kq_195 (S : Shq h) : hK h 195 = 4 := (S.1 195 (by decide)).trans (by decide +kernel)
theorem nq_195 (S : Shq h) : hN h 195 = 25 := (S.2.1 195 (by decide) (by decide)).trans (by decide +kernel)
theorem kq_196 (S : Shq h) : hK h 196 = 4 := (S.1 196 (by decide)).trans (by decide +kernel)
theorem nq_196 (S : Shq h) : hN h 196 = 25 := (S.2.1 196 (by decide) (by decide)).trans (by decide +kernel)
theorem kq_197 (S : Shq h) : hK h 197 = 4 := (S.1 197 (by decide)).trans (by decide +kernel)
theorem nq_197 (S : Shq h) : hN h 197 = 5 := (S.2.1 197 (by decide) (by decide)).trans (by decide +kernel)
theorem kq_198 (S : Shq h) : hK h 198 = 4 := (S.1 198 (by decide)).trans (by decide +kernel)
theorem nq_198 (S : Shq h) : hN h 198 = 80 := (S.2.1 198 (by decide) (by decide)).trans (by decide +kernel)
theorem kq_199 (S : Shq h) : hK h 199 = 2 := (S.1 199 (by decide)).trans (by decide +kernel)
theorem nq_199 (S : Shq h) : hN h 199 = 128 := (S.2.1 199 (by decide) (by decide)).trans (by decide +kernel)
theorem kq_200 (S : Shq h) : hK h 200 = 2 := (S.1 200 (by decide)).trans (by decide +kernel)
theorem nq_200 (S : Shq h) : hN h 200 = 64 := (S.2.1 200 (by decide) (by decide)).trans (by decide +kernel)
theorem kq_201 (S : Shq h) : hK h 201 = 4 := (S.1 201 (by decide)).trans (by decide +kernel)
theorem nq_201 (S : Shq h) : hN h 201 = 256 := (S.2.1 201 (by decide) (by decide)).trans (by decide +kernel)
theorem kq_202 (S : Shq h) : hK h 202 = 2 := (S.1 202 (by decide)).trans (by decide +kernel)
theorem nq_202 (S : Shq h) : hN h 202 = 256 := (S.2.1 202 (by decide) (by decide)).trans (by decide +kernel)
theorem rq_175_0 (S : Shq h) : hR h 175 0 = some 176 := S.2.2.1 (175, 0, 176) (List.mem_of_getElem? (i := 165) (by decide +kernel))
theorem rq_175_1 (S : Shq h) : hR h 175 1 = some 177 := S.2.2.1 (175, 1, 177) (List.mem_of_getElem? (i := 166) (by decide +kernel))
theorem rq_175_2 (S : Shq h) : hR h 175 2 = some 186 := S.2.2.1 (175, 2, 186) (List.mem_of_getElem? (i := 167) (by decide +kernel))
theorem rq_175_5 (S : Shq h) : hR h 175 5 = some 187 := S.2.2.1 (175, 5, 187) (List.mem_of_getElem? (i := 168) (by decide +kernel))
theorem rq_175_6 (S : Shq h) : hR h 175 6 = some 188 := S.2.2.1 (175, 6, 188) (List.mem_of_getElem? (i := 169) (by decide +kernel))
theorem rq_175_7 (S : Shq h) : hR h 175 7 = some 189 := S.2.2.1 (175, 7, 189) (List.mem_of_getElem? (i := 170) (by decide +kernel))
theorem rq_175_8 (S : Shq h) : hR h 175 8 = some 190 := S.2.2.1 (175, 8, 190) (List.mem_of_getElem? (i := 171) (by decide +kernel))
theorem rq_175_9 (S : Shq h) : hR h 175 9 = some 191 := S.2.2.1 (175, 9, 191) (List.mem_of_getElem? (i := 172) (by decide +kernel))
theorem rq_175_10 (S : Shq h) : hR h 175 10 = some 192 := S.2.2.1 (175, 10, 192) (List.mem_of_getElem? (i := 173) (by decide +kernel))
theorem rq_175_11 (S : Shq h) : hR h 175 11 = some 193 := S.2.2.1 (175, 11, 193) (List.mem_of_getElem? (i := 174) (by decide +kernel))
theorem rq_175_12 (S : Shq h) : hR h 175 12 = some 194 := S.2.2.1 (175, 12, 194) (List.mem_of_getElem? (i := 175) (by decide +kernel))
theorem rq_175_13 (S : Shq h) : hR h 175 13 = some 195 := S.2.2.1 (175, 13, 195) (List.mem_of_getElem? (i := 176) (by decide +kernel))
theorem rq_175_14 (S : Shq h) : hR h 175 14 = some 196 := S.2.2.1 (175, 14, 196) (List.mem_of_getElem? (i := 177) (by decide +kernel))
theorem rq_175_15 (S : Shq h) : hR h 175 15 = some 197 := S.2.2.1 (175, 15, 197) (List.mem_of_getElem? (i := 178) (by decide +kernel))
theorem rq_175_16 (S : Shq h) : hR h 175 16 = some 198 := S.2.2.1 (175, 16, 198) (List.mem_of_getElem? (i := 179) (by decide +kernel))
theorem rq_175_17 (S : Shq h) : hR h 175 17 = some 199 := S.2.2.1 (175, 17, 199) (List.mem_of_getElem? (i := 180) (by decide +kernel))
theorem rq_175_22 (S : Shq h) : hR h 175 22 = some 200 := S.2.2.1 (175, 22, 200) (List.mem_of_getElem? (i := 181) (by decide +kernel))
theorem rq_175_24 (S : Shq h) : hR h 175 24 = some 201 := S.2.2.1 (175, 24, 201) (List.mem_of_getElem? (i := 182) (by decide +kernel))
theorem rq_175_25 (S : Shq h) : hR h 175 25 = some 202 := S.2.2.1 (175, 25, 202) (List.mem_of_getElem? (i := 183) (by decide +kernel))
theorem rq_175_27 (S : Shq h) : hR h 175 27 = some 203 := S.2.2.1 (175, 27, 203) (List.mem_of_getElem? (i := 184) (by decide +kernel))
theorem rq_175_28 (S : Shq h) : hR h 175 28 = some 204 := S.2.2.1 (175, 28, 204) (List.mem_of_getElem? (i := 185) (by decide +kernel))
theorem rq_175_29 (S : Shq h) : hR h 175 29 = some 253 := S.2.2.1 (175, 29, 253) (List.mem_of_getElem? (i := 186) (by decide +kernel))
theorem rq_175_30 (S : Shq h) : hR h 175 30 = some 262 := S.2.2.1 (175, 30, 262) (List.mem_of_getElem? (i := 187) (by decide +kernel))
theorem rq_175_31 (S : Shq h) : hR h 175 31 = some 263 := S.2.2.1 (175, 31, 263) (List.mem_of_getElem? (i := 188) (by decide +kernel))
theorem rq_175_40 (S : Shq h) : hR h 175 40 = some 264 := S.2.2.1 (175, 40, 264) (List.mem_of_getElem? (i := 189) (by decide +kernel))
theorem rq_175_41 (S : Shq h) : hR h 175 41 = some 265 := S.2.2.1 (175, 41, 265) (List.mem_of_getElem? (i := 190) (by decide +kernel))
theorem rq_175_42 (S : Shq h) : hR h 175 42 = some 266 := S.2.2.1 (175, 42, 266) (List.mem_of_getElem? (i := 191) (by decide +kernel))
theorem rq_175_43 (S : Shq h) : hR h 175 43 = some 267 := S.2.2.1 (175, 43, 267) (List.mem_of_getElem? (i := 192) (by decide +kernel))
end SQ
def ab1 (w_ : Int) (m p : Int) : Int := if m = 4 * p then w_ ^ p.toNat else 0
theorem w_pow {w_ : Int} (h0 : 0 ≤ w_ ∧ w_ ≤ 22) : ∀ k : Nat, k ≤ 3 → 0 ≤ w_ ^ k ∧ w_ ^ k ≤ 10648 := fun k hk => by
  have s1 : w_ * w_ ≤ 22 * 22 := Int.mul_le_mul h0.2 h0.2 h0.1 (by decide)
  have s0 : 0 ≤ w_ * w_ := Int.mul_nonneg h0.1 h0.1
  have t1 : w_ * w_ * w_ ≤ 22 * 22 * 22 := Int.mul_le_mul s1 h0.2 h0.1 (by decide)
  have t0 : 0 ≤ w_ * w_ * w_ := Int.mul_nonneg s0 h0.1
  rcases (by omega : k = 0 ∨ k = 1 ∨ k = 2 ∨ k = 3) with e | e | e | e
  · subst e; rw [Int.pow_zero]; omega
  · subst e; rw [Int.pow_succ, Int.pow_zero, Int.one_mul]; omega
  · subst e; rw [Int.pow_succ, Int.pow_succ, Int.pow_zero, Int.one_mul]; omega
  · subst e; rw [Int.pow_succ, Int.pow_succ, Int.pow_succ, Int.pow_zero, Int.one_mul]; omega
theorem land_0 : ∀ k : Nat, k < 4 → a_land (a_lushr 0 (16 * (k : Int))) 65535 = 0 := by decide +kernel
