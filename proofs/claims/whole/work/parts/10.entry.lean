/-! the law's entry: where the old arrays lie, what they hold; the claim out of the law's own judgement -/
def a_sT (k : Nat) : List Int := match k with
  | 0 => [4, 6, 8]
  | 1 => [4, 5, 7]
  | 2 => [2, 4, 2]
  | 3 => [39, 49, 60]
  | 4 => [131072, 524288, 524288]
  | 5 => [44, 16, 16]
  | 6 => [80, 55, 75]
  | 7 => [32, 48, 64]
  | 8 => [1, 32898, -9223372036854742902, -9223372034707259392, 32907, 2147483649, -9223372034707259263, -9223372036854743031, 138, 136, 2147516425, 2147483658, 2147516555, -9223372036854775669, -9223372036854742903, -9223372036854743037, -9223372036854743038, -9223372036854775680, 32778, -9223372034707292150, -9223372034707259263, -9223372036854742912, 2147483649, -9223372034707259384]
  | 9 => [0, 10, 20, 5, 15, 16, 1, 11, 21, 6, 7, 17, 2, 12, 22, 23, 8, 18, 3, 13, 14, 24, 9, 19, 4]
  | _ => [0, 1, 62, 28, 27, 36, 44, 6, 55, 20, 3, 10, 43, 25, 39, 41, 45, 15, 21, 8, 18, 2, 61, 56, 14]
def a_sl (k : Nat) : Nat := (a_sT k).length
def a_sI (k : Nat) (j : Int) : Int := (a_sT k).getD j.toNat 0
def h_0 (L : Nat) (xs : Nat → Int32) : Hp :=
  (fun k => if k < 12 then (if k = 8 then 4 else 1) else 0,
   fun k => if k < 11 then (a_sl k : Int) else if k = 11 then (L : Int) else 0,
   fun k j => if k < 11 then (if k = 8 then 0 else a_sI k j) else if k = 11 then (xs j.toNat).toInt else 0,
   fun k j => if k = 8 then a_sI 8 j else 0,
   fun _ _ => none, 12, 0)
def a_G0 (s : State) (b : Nat) (ad : Nat → Nat) (D : va_G) : a_G := (s.heap.size, fun k => if k = 11 then b else ad k, D, s.heap)
theorem a_el0 : ∀ j, j < a_sl 0 → Cond.eq (.elem (.static (a_sn 0).1 (a_sn 0).2.1 (a_sn 0).2.2) (.int (Int32.ofNat j))) (.int (Int32.ofInt (a_sI 0 j))) ∈ flatC (Jvm.Cond.and given_1 narrow_1) := by decide +kernel
theorem a_ln0 : Cond.eq (.length (.static (a_sn 0).1 (a_sn 0).2.1 (a_sn 0).2.2)) (.int (Int32.ofNat (a_sl 0))) ∈ flatC (Jvm.Cond.and given_1 narrow_1) := by decide +kernel
theorem a_ao0 : Cond.arrayOf (.static (a_sn 0).1 (a_sn 0).2.1 (a_sn 0).2.2) .int ∈ flatC (Jvm.Cond.and given_1 narrow_1) := by decide +kernel
theorem a_ls0 : Cond.laysStatic (a_sn 0).1 (a_sn 0).2.1 (a_sn 0).2.2 ∈ lw_tbl := List.mem_append_right _ (List.mem_of_getElem? (i := 60) (by decide +kernel))
theorem a_in_s0 : Cond.initialized (a_sn 0).1 ∈ lw_tbl := List.mem_append_right _ (List.mem_of_getElem? (i := 3) (by decide +kernel))
theorem a_el1 : ∀ j, j < a_sl 1 → Cond.eq (.elem (.static (a_sn 1).1 (a_sn 1).2.1 (a_sn 1).2.2) (.int (Int32.ofNat j))) (.int (Int32.ofInt (a_sI 1 j))) ∈ flatC (Jvm.Cond.and given_1 narrow_1) := by decide +kernel
theorem a_ln1 : Cond.eq (.length (.static (a_sn 1).1 (a_sn 1).2.1 (a_sn 1).2.2)) (.int (Int32.ofNat (a_sl 1))) ∈ flatC (Jvm.Cond.and given_1 narrow_1) := by decide +kernel
theorem a_ao1 : Cond.arrayOf (.static (a_sn 1).1 (a_sn 1).2.1 (a_sn 1).2.2) .int ∈ flatC (Jvm.Cond.and given_1 narrow_1) := by decide +kernel
theorem a_ls1 : Cond.laysStatic (a_sn 1).1 (a_sn 1).2.1 (a_sn 1).2.2 ∈ lw_tbl := List.mem_append_right _ (List.mem_of_getElem? (i := 62) (by decide +kernel))
theorem a_in_s1 : Cond.initialized (a_sn 1).1 ∈ lw_tbl := List.mem_append_right _ (List.mem_of_getElem? (i := 3) (by decide +kernel))
theorem a_el2 : ∀ j, j < a_sl 2 → Cond.eq (.elem (.static (a_sn 2).1 (a_sn 2).2.1 (a_sn 2).2.2) (.int (Int32.ofNat j))) (.int (Int32.ofInt (a_sI 2 j))) ∈ flatC (Jvm.Cond.and given_1 narrow_1) := by decide +kernel
theorem a_ln2 : Cond.eq (.length (.static (a_sn 2).1 (a_sn 2).2.1 (a_sn 2).2.2)) (.int (Int32.ofNat (a_sl 2))) ∈ flatC (Jvm.Cond.and given_1 narrow_1) := by decide +kernel
theorem a_ao2 : Cond.arrayOf (.static (a_sn 2).1 (a_sn 2).2.1 (a_sn 2).2.2) .int ∈ flatC (Jvm.Cond.and given_1 narrow_1) := by decide +kernel
theorem a_ls2 : Cond.laysStatic (a_sn 2).1 (a_sn 2).2.1 (a_sn 2).2.2 ∈ lw_tbl := List.mem_append_right _ (List.mem_of_getElem? (i := 64) (by decide +kernel))
theorem a_in_s2 : Cond.initialized (a_sn 2).1 ∈ lw_tbl := List.mem_append_right _ (List.mem_of_getElem? (i := 3) (by decide +kernel))
theorem a_el3 : ∀ j, j < a_sl 3 → Cond.eq (.elem (.static (a_sn 3).1 (a_sn 3).2.1 (a_sn 3).2.2) (.int (Int32.ofNat j))) (.int (Int32.ofInt (a_sI 3 j))) ∈ flatC (Jvm.Cond.and given_1 narrow_1) := by decide +kernel
theorem a_ln3 : Cond.eq (.length (.static (a_sn 3).1 (a_sn 3).2.1 (a_sn 3).2.2)) (.int (Int32.ofNat (a_sl 3))) ∈ flatC (Jvm.Cond.and given_1 narrow_1) := by decide +kernel
theorem a_ao3 : Cond.arrayOf (.static (a_sn 3).1 (a_sn 3).2.1 (a_sn 3).2.2) .int ∈ flatC (Jvm.Cond.and given_1 narrow_1) := by decide +kernel
theorem a_ls3 : Cond.laysStatic (a_sn 3).1 (a_sn 3).2.1 (a_sn 3).2.2 ∈ lw_tbl := List.mem_append_right _ (List.mem_of_getElem? (i := 66) (by decide +kernel))
theorem a_in_s3 : Cond.initialized (a_sn 3).1 ∈ lw_tbl := List.mem_append_right _ (List.mem_of_getElem? (i := 3) (by decide +kernel))
theorem a_el4 : ∀ j, j < a_sl 4 → Cond.eq (.elem (.static (a_sn 4).1 (a_sn 4).2.1 (a_sn 4).2.2) (.int (Int32.ofNat j))) (.int (Int32.ofInt (a_sI 4 j))) ∈ flatC (Jvm.Cond.and given_1 narrow_1) := by decide +kernel
theorem a_ln4 : Cond.eq (.length (.static (a_sn 4).1 (a_sn 4).2.1 (a_sn 4).2.2)) (.int (Int32.ofNat (a_sl 4))) ∈ flatC (Jvm.Cond.and given_1 narrow_1) := by decide +kernel
theorem a_ao4 : Cond.arrayOf (.static (a_sn 4).1 (a_sn 4).2.1 (a_sn 4).2.2) .int ∈ flatC (Jvm.Cond.and given_1 narrow_1) := by decide +kernel
theorem a_ls4 : Cond.laysStatic (a_sn 4).1 (a_sn 4).2.1 (a_sn 4).2.2 ∈ lw_tbl := List.mem_append_right _ (List.mem_of_getElem? (i := 68) (by decide +kernel))
theorem a_in_s4 : Cond.initialized (a_sn 4).1 ∈ lw_tbl := List.mem_append_right _ (List.mem_of_getElem? (i := 3) (by decide +kernel))
theorem a_el5 : ∀ j, j < a_sl 5 → Cond.eq (.elem (.static (a_sn 5).1 (a_sn 5).2.1 (a_sn 5).2.2) (.int (Int32.ofNat j))) (.int (Int32.ofInt (a_sI 5 j))) ∈ flatC (Jvm.Cond.and given_1 narrow_1) := by decide +kernel
theorem a_ln5 : Cond.eq (.length (.static (a_sn 5).1 (a_sn 5).2.1 (a_sn 5).2.2)) (.int (Int32.ofNat (a_sl 5))) ∈ flatC (Jvm.Cond.and given_1 narrow_1) := by decide +kernel
theorem a_ao5 : Cond.arrayOf (.static (a_sn 5).1 (a_sn 5).2.1 (a_sn 5).2.2) .int ∈ flatC (Jvm.Cond.and given_1 narrow_1) := by decide +kernel
theorem a_ls5 : Cond.laysStatic (a_sn 5).1 (a_sn 5).2.1 (a_sn 5).2.2 ∈ lw_tbl := List.mem_append_right _ (List.mem_of_getElem? (i := 70) (by decide +kernel))
theorem a_in_s5 : Cond.initialized (a_sn 5).1 ∈ lw_tbl := List.mem_append_right _ (List.mem_of_getElem? (i := 3) (by decide +kernel))
theorem a_el6 : ∀ j, j < a_sl 6 → Cond.eq (.elem (.static (a_sn 6).1 (a_sn 6).2.1 (a_sn 6).2.2) (.int (Int32.ofNat j))) (.int (Int32.ofInt (a_sI 6 j))) ∈ flatC (Jvm.Cond.and given_1 narrow_1) := by decide +kernel
theorem a_ln6 : Cond.eq (.length (.static (a_sn 6).1 (a_sn 6).2.1 (a_sn 6).2.2)) (.int (Int32.ofNat (a_sl 6))) ∈ flatC (Jvm.Cond.and given_1 narrow_1) := by decide +kernel
theorem a_ao6 : Cond.arrayOf (.static (a_sn 6).1 (a_sn 6).2.1 (a_sn 6).2.2) .int ∈ flatC (Jvm.Cond.and given_1 narrow_1) := by decide +kernel
theorem a_ls6 : Cond.laysStatic (a_sn 6).1 (a_sn 6).2.1 (a_sn 6).2.2 ∈ lw_tbl := List.mem_append_right _ (List.mem_of_getElem? (i := 73) (by decide +kernel))
theorem a_in_s6 : Cond.initialized (a_sn 6).1 ∈ lw_tbl := List.mem_append_right _ (List.mem_of_getElem? (i := 3) (by decide +kernel))
theorem a_el7 : ∀ j, j < a_sl 7 → Cond.eq (.elem (.static (a_sn 7).1 (a_sn 7).2.1 (a_sn 7).2.2) (.int (Int32.ofNat j))) (.int (Int32.ofInt (a_sI 7 j))) ∈ flatC (Jvm.Cond.and given_1 narrow_1) := by decide +kernel
theorem a_ln7 : Cond.eq (.length (.static (a_sn 7).1 (a_sn 7).2.1 (a_sn 7).2.2)) (.int (Int32.ofNat (a_sl 7))) ∈ flatC (Jvm.Cond.and given_1 narrow_1) := by decide +kernel
theorem a_ao7 : Cond.arrayOf (.static (a_sn 7).1 (a_sn 7).2.1 (a_sn 7).2.2) .int ∈ flatC (Jvm.Cond.and given_1 narrow_1) := by decide +kernel
theorem a_ls7 : Cond.laysStatic (a_sn 7).1 (a_sn 7).2.1 (a_sn 7).2.2 ∈ lw_tbl := List.mem_append_right _ (List.mem_of_getElem? (i := 75) (by decide +kernel))
theorem a_in_s7 : Cond.initialized (a_sn 7).1 ∈ lw_tbl := List.mem_append_right _ (List.mem_of_getElem? (i := 3) (by decide +kernel))
theorem a_el8 : ∀ j, j < a_sl 8 → Cond.eq (.elem (.static (a_sn 8).1 (a_sn 8).2.1 (a_sn 8).2.2) (.int (Int32.ofNat j))) (.long (Int64.ofInt (a_sI 8 j))) ∈ flatC (Jvm.Cond.and given_1 narrow_1) := by decide +kernel
theorem a_ln8 : Cond.eq (.length (.static (a_sn 8).1 (a_sn 8).2.1 (a_sn 8).2.2)) (.int (Int32.ofNat (a_sl 8))) ∈ flatC (Jvm.Cond.and given_1 narrow_1) := by decide +kernel
theorem a_ao8 : Cond.arrayOf (.static (a_sn 8).1 (a_sn 8).2.1 (a_sn 8).2.2) .long ∈ flatC (Jvm.Cond.and given_1 narrow_1) := by decide +kernel
theorem a_ls8 : Cond.laysStatic (a_sn 8).1 (a_sn 8).2.1 (a_sn 8).2.2 ∈ lw_tbl := List.mem_append_right _ (List.mem_of_getElem? (i := 630) (by decide +kernel))
theorem a_in_s8 : Cond.initialized (a_sn 8).1 ∈ lw_tbl := List.mem_append_right _ (List.mem_of_getElem? (i := 7) (by decide +kernel))
theorem a_el9 : ∀ j, j < a_sl 9 → Cond.eq (.elem (.static (a_sn 9).1 (a_sn 9).2.1 (a_sn 9).2.2) (.int (Int32.ofNat j))) (.int (Int32.ofInt (a_sI 9 j))) ∈ flatC (Jvm.Cond.and given_1 narrow_1) := by decide +kernel
theorem a_ln9 : Cond.eq (.length (.static (a_sn 9).1 (a_sn 9).2.1 (a_sn 9).2.2)) (.int (Int32.ofNat (a_sl 9))) ∈ flatC (Jvm.Cond.and given_1 narrow_1) := by decide +kernel
theorem a_ao9 : Cond.arrayOf (.static (a_sn 9).1 (a_sn 9).2.1 (a_sn 9).2.2) .int ∈ flatC (Jvm.Cond.and given_1 narrow_1) := by decide +kernel
theorem a_ls9 : Cond.laysStatic (a_sn 9).1 (a_sn 9).2.1 (a_sn 9).2.2 ∈ lw_tbl := List.mem_append_right _ (List.mem_of_getElem? (i := 632) (by decide +kernel))
theorem a_in_s9 : Cond.initialized (a_sn 9).1 ∈ lw_tbl := List.mem_append_right _ (List.mem_of_getElem? (i := 7) (by decide +kernel))
theorem a_el10 : ∀ j, j < a_sl 10 → Cond.eq (.elem (.static (a_sn 10).1 (a_sn 10).2.1 (a_sn 10).2.2) (.int (Int32.ofNat j))) (.int (Int32.ofInt (a_sI 10 j))) ∈ flatC (Jvm.Cond.and given_1 narrow_1) := by decide +kernel
theorem a_ln10 : Cond.eq (.length (.static (a_sn 10).1 (a_sn 10).2.1 (a_sn 10).2.2)) (.int (Int32.ofNat (a_sl 10))) ∈ flatC (Jvm.Cond.and given_1 narrow_1) := by decide +kernel
theorem a_ao10 : Cond.arrayOf (.static (a_sn 10).1 (a_sn 10).2.1 (a_sn 10).2.2) .int ∈ flatC (Jvm.Cond.and given_1 narrow_1) := by decide +kernel
theorem a_ls10 : Cond.laysStatic (a_sn 10).1 (a_sn 10).2.1 (a_sn 10).2.2 ∈ lw_tbl := List.mem_append_right _ (List.mem_of_getElem? (i := 634) (by decide +kernel))
theorem a_in_s10 : Cond.initialized (a_sn 10).1 ∈ lw_tbl := List.mem_append_right _ (List.mem_of_getElem? (i := 7) (by decide +kernel))
/-- each static array: where it lies, what it holds -/
theorem a_stat {args : Array Value} {s : State} (hw : ∀ w ∈ lw_tbl, w.before args s = true) (hg : (Jvm.Cond.and given_1 narrow_1).before args s = true) : ∀ k, k < 11 → ∃ t : Nat, va_Z (a_sn k).1 (a_sn k).2.1 (a_sn k).2.2 (.ref t) (fun q => s.heap.size ≤ q) s s.heap ∧ va_T (if k = 8 then .long else .int) t (a_sl k) (fun j => if k = 8 then .long (Int64.ofInt (a_sI 8 j)) else .int (Int32.ofInt (a_sI k j))) (fun q => s.heap.size ≤ q) s s.heap := by
  have hA : ∀ a : Nat, a < s.heap.size → ¬ s.heap.size ≤ a := fun a ha => Nat.not_le.mpr ha
  have hf := flat_of_before _ hg
  intro k hk
  rcases (show k = 0 ∨ k = 1 ∨ k = 2 ∨ k = 3 ∨ k = 4 ∨ k = 5 ∨ k = 6 ∨ k = 7 ∨ k = 8 ∨ k = 9 ∨ k = 10 by omega) with rfl | rfl | rfl | rfl | rfl | rfl | rfl | rfl | rfl | rfl | rfl
  · obtain ⟨t, h1, h2⟩ := va_Tof (ty := .int) (N := a_sl 0) (f := fun j => .int (Int32.ofInt (a_sI 0 j))) (A := fun q => s.heap.size ≤ q) (by decide) (hf _ a_ao0) (va_eqt (hf _ a_ln0)) (fun j hj => va_eqt (hf _ (a_el0 j hj))) hA
    exact ⟨t, va_Zref (hw _ a_ls0) (hw _ a_in_s0) h1 hA, h2⟩
  · obtain ⟨t, h1, h2⟩ := va_Tof (ty := .int) (N := a_sl 1) (f := fun j => .int (Int32.ofInt (a_sI 1 j))) (A := fun q => s.heap.size ≤ q) (by decide) (hf _ a_ao1) (va_eqt (hf _ a_ln1)) (fun j hj => va_eqt (hf _ (a_el1 j hj))) hA
    exact ⟨t, va_Zref (hw _ a_ls1) (hw _ a_in_s1) h1 hA, h2⟩
  · obtain ⟨t, h1, h2⟩ := va_Tof (ty := .int) (N := a_sl 2) (f := fun j => .int (Int32.ofInt (a_sI 2 j))) (A := fun q => s.heap.size ≤ q) (by decide) (hf _ a_ao2) (va_eqt (hf _ a_ln2)) (fun j hj => va_eqt (hf _ (a_el2 j hj))) hA
    exact ⟨t, va_Zref (hw _ a_ls2) (hw _ a_in_s2) h1 hA, h2⟩
  · obtain ⟨t, h1, h2⟩ := va_Tof (ty := .int) (N := a_sl 3) (f := fun j => .int (Int32.ofInt (a_sI 3 j))) (A := fun q => s.heap.size ≤ q) (by decide) (hf _ a_ao3) (va_eqt (hf _ a_ln3)) (fun j hj => va_eqt (hf _ (a_el3 j hj))) hA
    exact ⟨t, va_Zref (hw _ a_ls3) (hw _ a_in_s3) h1 hA, h2⟩
  · obtain ⟨t, h1, h2⟩ := va_Tof (ty := .int) (N := a_sl 4) (f := fun j => .int (Int32.ofInt (a_sI 4 j))) (A := fun q => s.heap.size ≤ q) (by decide) (hf _ a_ao4) (va_eqt (hf _ a_ln4)) (fun j hj => va_eqt (hf _ (a_el4 j hj))) hA
    exact ⟨t, va_Zref (hw _ a_ls4) (hw _ a_in_s4) h1 hA, h2⟩
  · obtain ⟨t, h1, h2⟩ := va_Tof (ty := .int) (N := a_sl 5) (f := fun j => .int (Int32.ofInt (a_sI 5 j))) (A := fun q => s.heap.size ≤ q) (by decide) (hf _ a_ao5) (va_eqt (hf _ a_ln5)) (fun j hj => va_eqt (hf _ (a_el5 j hj))) hA
    exact ⟨t, va_Zref (hw _ a_ls5) (hw _ a_in_s5) h1 hA, h2⟩
  · obtain ⟨t, h1, h2⟩ := va_Tof (ty := .int) (N := a_sl 6) (f := fun j => .int (Int32.ofInt (a_sI 6 j))) (A := fun q => s.heap.size ≤ q) (by decide) (hf _ a_ao6) (va_eqt (hf _ a_ln6)) (fun j hj => va_eqt (hf _ (a_el6 j hj))) hA
    exact ⟨t, va_Zref (hw _ a_ls6) (hw _ a_in_s6) h1 hA, h2⟩
  · obtain ⟨t, h1, h2⟩ := va_Tof (ty := .int) (N := a_sl 7) (f := fun j => .int (Int32.ofInt (a_sI 7 j))) (A := fun q => s.heap.size ≤ q) (by decide) (hf _ a_ao7) (va_eqt (hf _ a_ln7)) (fun j hj => va_eqt (hf _ (a_el7 j hj))) hA
    exact ⟨t, va_Zref (hw _ a_ls7) (hw _ a_in_s7) h1 hA, h2⟩
  · obtain ⟨t, h1, h2⟩ := va_Tof (ty := .long) (N := a_sl 8) (f := fun j => .long (Int64.ofInt (a_sI 8 j))) (A := fun q => s.heap.size ≤ q) (by decide) (hf _ a_ao8) (va_eqt (hf _ a_ln8)) (fun j hj => va_eqtl (hf _ (a_el8 j hj))) hA
    exact ⟨t, va_Zref (hw _ a_ls8) (hw _ a_in_s8) h1 hA, h2⟩
  · obtain ⟨t, h1, h2⟩ := va_Tof (ty := .int) (N := a_sl 9) (f := fun j => .int (Int32.ofInt (a_sI 9 j))) (A := fun q => s.heap.size ≤ q) (by decide) (hf _ a_ao9) (va_eqt (hf _ a_ln9)) (fun j hj => va_eqt (hf _ (a_el9 j hj))) hA
    exact ⟨t, va_Zref (hw _ a_ls9) (hw _ a_in_s9) h1 hA, h2⟩
  · obtain ⟨t, h1, h2⟩ := va_Tof (ty := .int) (N := a_sl 10) (f := fun j => .int (Int32.ofInt (a_sI 10 j))) (A := fun q => s.heap.size ≤ q) (by decide) (hf _ a_ao10) (va_eqt (hf _ a_ln10)) (fun j hj => va_eqt (hf _ (a_el10 j hj))) hA
    exact ⟨t, va_Zref (hw _ a_ls10) (hw _ a_in_s10) h1 hA, h2⟩
theorem a_getD {l : List Int} {d : Int} {Q : Int → Prop} (h : ∀ x ∈ l, Q x) (hd : Q d) (i : Nat) : Q (l.getD i d) := by
  rw [List.getD_eq_getElem?_getD]
  cases e : l[i]? with
  | none => exact hd
  | some x => exact h x (List.mem_of_getElem? e)
theorem a_bd : ∀ k, k < 11 → k ≠ 8 → (a_sT k).all (fun x => decide (-2147483648 ≤ x) && decide (x < 2147483648)) = true := by decide
theorem a_bdL : (a_sT 8).all (fun x => decide (-9223372036854775808 ≤ x) && decide (x < 9223372036854775808)) = true := by decide
theorem a_sIok (k : Nat) (hk : k < 11) (h8 : k ≠ 8) (j : Int) : okI (a_sI k j) := by
  refine a_getD (fun x hx => ?_) a_zI _
  have h := List.all_eq_true.mp (a_bd k hk h8) x hx
  simp only [Bool.and_eq_true, decide_eq_true_eq] at h
  exact h
theorem a_sLok (j : Int) : okL (a_sI 8 j) := by
  refine a_getD (fun x hx => ?_) a_zL _
  have h := List.all_eq_true.mp a_bdL x hx
  simp only [Bool.and_eq_true, decide_eq_true_eq] at h
  exact h
theorem a_sl_lt : ∀ k, k < 11 → a_sl k < 26 := by decide
theorem okH_0 {L : Nat} {xs : Nat → Int32} (hL : L ≤ 3072) : okH (h_0 L xs) := by
  refine ⟨fun k j => ?_, fun k j => ?_, fun k => ?_, fun k j hk => ?_, fun k j hk => ?_, fun k hk => ?_, Nat.le_refl 12⟩
  · show okI (if k < 11 then (if k = 8 then 0 else a_sI k j) else if k = 11 then (xs j.toNat).toInt else 0)
    split
    · split
      · exact a_zI
      · exact a_sIok k (by assumption) (by assumption) j
    · split
      · exact a_ok32 _
      · exact a_zI
  · show okL (if k = 8 then a_sI 8 j else 0)
    split
    · exact a_sLok j
    · exact a_zL
  · show 0 ≤ (if k < 11 then (a_sl k : Int) else if k = 11 then (L : Int) else 0) ∧ (if k < 11 then (a_sl k : Int) else if k = 11 then (L : Int) else 0) < 2147483648
    split
    · have := a_sl_lt k (by assumption)
      omega
    · split <;> omega
  · have hk' : (if k < 12 then (if k = 8 then 4 else 1) else 0) = 2 := hk
    split at hk'
    · split at hk' <;> omega
    · omega
  · have hk' : (if k < 12 then (if k = 8 then 4 else 1) else 0) = 3 := hk
    split at hk'
    · split at hk' <;> omega
    · omega
  · have hk' : (if k < 12 then (if k = 8 then 4 else 1) else 0) ≠ 0 := hk
    show k < 12
    by_cases q : k < 12
    · exact q
    · rw [if_neg q] at hk'
      exact absurd rfl hk'
theorem a_Rep0 {s : State} {b L : Nat} {xs : Nat → Int32} {ad : Nat → Nat} {D : va_G} (hL : L ≤ 3072) (hX0 : va_X b L xs s s.heap) (had : ∀ k, k < 11 → va_T (if k = 8 then .long else .int) (ad k) (a_sl k) (fun j => if k = 8 then .long (Int64.ofInt (a_sI 8 j)) else .int (Int32.ofInt (a_sI k j))) (fun q => s.heap.size ≤ q) s s.heap) : a_Rep s (a_G0 s b ad D) (h_0 L xs) s.heap := by
  refine ⟨rfl, okH_0 hL, fun q _ => rfl, fun k => ?_⟩
  by_cases q : k < 12
  · have eK : hK (h_0 L xs) k = if k = 8 then 4 else 1 := if_pos q
    have eR : a_rh (a_G0 s b ad D) k = if k = 11 then b else ad k := if_pos q
    refine ⟨fun _ _ => ?_, fun z => by rw [eK] at z; split at z <;> omega, fun z => by rw [eK] at z; split at z <;> omega⟩
    by_cases q2 : k = 11
    · subst q2
      obtain ⟨cell, g1, g2, g3, g4, g5⟩ := hX0
      refine ⟨cell, g1, g2, g3, ?_, fun j hj => ?_, fun z => by have z' : 8 ≤ (1 : Nat) := z; omega⟩
      · show (L : Int) ≤ (cell.slots.size : Int) ∧ cell.slots.size.toInt32 = Int32.ofInt (L : Int)
        rw [g4, Int32.ofInt_eq_ofNat]
        exact ⟨Int.le_refl _, rfl⟩
      · have hj' : j < L := Int.ofNat_lt.mp hj
        rw [g5 j hj']
        show some (Value.int (xs j)) = some (Value.int (Int32.ofInt (xs (j : Int).toNat).toInt))
        rw [Int32.ofInt_toInt]
        rfl
    · obtain ⟨cell, g1, g2, g3, g4, g5, g6, g7⟩ := had k (by omega)
      have eN : hN (h_0 L xs) k = (a_sl k : Int) := if_pos (by omega)
      refine ⟨cell, by rw [eR, if_neg q2]; exact g1, ?_, g3, ?_, fun j hj => ?_, fun z => by rw [eK] at z; split at z <;> omega⟩
      · rw [eK]
        split at g2
        · rw [if_pos (by assumption)]; exact g2
        · rw [if_neg (by assumption)]; exact g2
      · rw [eN, Int32.ofInt_eq_ofNat]
        exact ⟨by omega, g5⟩
      · rw [eN] at hj
        rw [g6 j (Int.ofNat_lt.mp hj), eK]
        by_cases z : k = 8
        · subst z
          rfl
        · show some (if k = 8 then Value.long (Int64.ofInt (a_sI 8 j)) else Value.int (Int32.ofInt (a_sI k j))) = _
          rw [if_neg z, if_neg z]
          show some (Value.int (Int32.ofInt (a_sI k j))) = some (Value.int (Int32.ofInt (hI (h_0 L xs) k j)))
          rw [show hI (h_0 L xs) k j = a_sI k j from (if_pos (by omega)).trans (if_neg z)]
  · have eK : hK (h_0 L xs) k = 0 := if_neg q
    rw [eK]
    exact ⟨fun z => by omega, fun z => by omega, fun z => by omega⟩
def M_law : a_M := (x, code, 8, some .boolean, "ModuleSignerLaw", 14, 536, [])
theorem M_law_rm : a_rm M_law 12 0 = room_1 := rfl
def lw_P (b : Addr) (xs : List Int32) (args : Array Value) (s : State) : Prop := args = #[.ref b] ∧ s.IntsAt b xs ∧ xs.length ≤ 3072 ∧ (Jvm.Cond.and given_1 narrow_1).before args s = true
def lw_Q (_ : Array Value) (s : State) (o : Outcome) (t : State) : Prop := o = .returned (some (.int 1)) ∧ Framed s o t [] 601024 7293034
def lw_Z (below : List Frame) (a : Array Value) (s : State) : State → Prop := fun t => ∃ o, t.status = .running ∧ Ended t below o ∧ lw_Q a s o t
/-- THE LAW, from its entry, out of its judgement -/
theorem a_whole {p : Program} {e : Env} {s : State} {m : MethodId} {below : List Frame} {meth : Method} {c : Code} (l : Launch) {b L : Nat} {xs : Nat → Int32} (hL : L ≤ 3072)
    (K : ∀ (G : a_G), AW l G M_law (fun r _ => r = .inl (some (vi 1))) 0 (a_ar 0 [vr 11]) [] (h_0 L xs))
    (hx : p.tables.exec = Jvm.exec) (hb : c.code = code) (hr : meth.sig.returnType = ret) (hml : c.maxLocals = 8) (hown : s.vm.findClass "ModuleSignerLaw" = some m.cls) (hts : ∀ w ∈ lw_tbl, w.before #[Value.ref b] s = true) (hX0 : va_X b L xs s s.heap) (hbl : b < s.heap.size) (hlocks : meth.locks = false) (hgv : (Jvm.Cond.and given_1 narrow_1).before #[Value.ref b] s = true) (hex : c.exceptionTable.isEmpty = true) (hnm : meth.name = "law") :
    W p l e room_1 s m #[Value.ref b] below meth c s.heap [] 0 0 (lw_Z below #[Value.ref b] s) (entryFrame m ([Value.ref b] : List Value).toArray 8) := by
  obtain ⟨ad, had⟩ := Classical.axiomOfChoice (fun k : Nat => (show ∃ t : Nat, k < 11 → (va_Z (a_sn k).1 (a_sn k).2.1 (a_sn k).2.2 (.ref t) (fun q => s.heap.size ≤ q) s s.heap ∧ va_T (if k = 8 then .long else .int) t (a_sl k) (fun j => if k = 8 then .long (Int64.ofInt (a_sI 8 j)) else .int (Int32.ofInt (a_sI k j))) (fun q => s.heap.size ≤ q) s s.heap) from by
    by_cases hk : k < 11
    · obtain ⟨t, ht⟩ := a_stat hts hgv k hk
      exact ⟨t, fun _ => ht⟩
    · exact ⟨0, fun q => absurd q hk⟩))
  have hKn : ∀ ci, ∃ (d : ClassId × (Nat → Nat)), ci < 11 → u_Kn s (a_cn ci) (a_T ci) (a_F ci) d.1 d.2 := fun ci => by
    by_cases hc : ci < 11
    · obtain ⟨cC, iS, hk⟩ := u_known (C := a_cn ci) (T := a_T ci) (N := a_F ci) (n := a_F ci) hts (a_in ci hc) (hts _ (a_inst ci hc))
      exact ⟨(cC, iS), fun _ => hk⟩
    · exact ⟨(0, fun _ => 0), fun q => absurd q hc⟩
  obtain ⟨dd, hdd⟩ := Classical.axiomOfChoice hKn
  have hK0 : va_K (fun ci => (dd ci).1, fun ci => (dd ci).2) a_cls [] s := by
    refine ⟨fun ci q hq => ?_, fun k q hq => by simp at hq⟩
    have hlt : ci < 11 := by
      have := (List.getElem?_eq_some_iff.mp hq).1
      simpa [a_cls] using this
    rw [a_cls_at hlt] at hq
    cases hq
    exact hdd ci hlt
  have hlt : ∀ k, k < 12 → (a_G0 s b ad (fun ci => (dd ci).1, fun ci => (dd ci).2)).2.1 k < s.heap.size := fun k hk => by
    show (if k = 11 then b else ad k) < _
    split
    · exact hbl
    · obtain ⟨cell, g1, -⟩ := (had k (by omega)).2
      exact (Array.getElem?_eq_some_iff.mp g1).1
  have C : a_Cx (a_G0 s b ad (fun ci => (dd ci).1, fun ci => (dd ci).2)) M_law p s m meth c := by
    refine ⟨hx, hb, hr, hml, hown, ⟨s, _, hts, State.WarmedH.refl s, rfl, hgv, rfl, fun k hk => ?_⟩, hK0, hlocks, ?_, hnm, hlt⟩
    · show va_Z _ _ _ (.ref (if k = 11 then b else ad k)) _ _ _
      rw [if_neg (by omega)]
      exact (had k hk).1
    · have : c.exceptionTable.toList = [] := by simpa using hex
      rw [this]
      rfl
  have hentry := lv_entry ([vr 11].map (a_cv (a_rh (a_G0 s b ad (fun ci => (dd ci).1, fun ci => (dd ci).2))))) (n := 8) (by rw [a_aw_len]; decide)
  rw [a_ar_lm] at hentry
  have S : a_St (a_G0 s b ad (fun ci => (dd ci).1, fun ci => (dd ci).2)) M_law s 12 0 s.heap [] _ (a_ar 0 [vr 11]) [] (h_0 L xs) := ⟨⟨Nat.le_refl _, (by decide : 12 ≤ a_NX), Nat.le_refl _, (by decide : 0 ≤ a_US)⟩, a_Rep0 hL hX0 (fun k hk => (had k hk).2), hentry, a_ar_ok _ _ (fun v hv => by rw [List.mem_singleton.mp hv]; exact trivial), (fun v hv => by cases hv), (fun q hq => by cases hq)⟩
  have kk := K _ p e s m #[Value.ref b] below meth c 12 0 s.heap [] _ C S
  rw [lg_entry_eq]
  refine a_W_mono ?_ kk
  rintro t ⟨r, h', Ls, rfl, -, q3, q4, q5, q6, q7, q8, q9, q10, q11, q12⟩
  refine ⟨_, q3, q4, rfl, ⟨_, rfl⟩, q10, ?_⟩
  have h1 : s.sameButNew ({ t with vm := s.vm } : State) ([] ++ Ls) (hX h' - 12) (hU h' - 0) := q11
  have h2 := h1.drop_fresh (fun y hy => q12 y hy)
  exact h2.mono (by unfold a_NX at q7; omega) (by unfold a_US at q9; omega)
def a_Law : Prop := ∀ (l : Launch), l.flags = flags0 → ∀ (L : Nat) (xs : Nat → Int32), L ≤ 3072 → ∀ (G : a_G), AW l G M_law (fun r _ => r = .inl (some (vi 1))) 0 (a_ar 0 [vr 11]) [] (h_0 L xs)
set_option maxHeartbeats 4000000 in
theorem lw_walk (A : a_Law) (l : Launch) (hfl : l.flags = flags0) (b : Addr) (xs : List Int32) : MetFree l x (headSpec (Jvm.Cond.code x code maxLocals ret :: tables_1) room_1) (lw_P b xs) (fun _ _ _ _ _ => True) lw_Q := by
  refine MetFree.of_bodyS (code := code) (maxLocals := maxLocals) (ret := ret) (by decide) ?_ ?_
  · intro args s m h hn
    obtain ⟨meth, c, h1, h2, h3, h4, h5, h6, -, -⟩ := Cond.code_spec hn (atoms_spec (ws := Jvm.Cond.code x code maxLocals ret :: tables_1) h _ List.mem_cons_self)
    exact ⟨meth, c, h1, h2, h3, h4, h5, h6⟩
  · intro p e s m args below meth c s₁ B hml0 hP _
    obtain ⟨rfl, hx, hbd, hgv⟩ := hP
    obtain ⟨scr, harrAt, hlist, hof, hsmall⟩ := hx
    obtain ⟨hcb, hkn, -, -⟩ := State.arrayAt?_spec harrAt
    have hown : s.vm.findClass "ModuleSignerLaw" = some m.cls := findClass_of_methodNamed B.named
    have hts0 : ∀ c ∈ (Jvm.Cond.code x code maxLocals ret :: tables_1), c.before #[Value.ref b] s = true := atoms_spec (ws := Jvm.Cond.code x code maxLocals ret :: tables_1) B.pre
    have hts : ∀ w ∈ lw_tbl, w.before #[Value.ref b] s = true := k2_hts_sels lw_privs (fun w hw => hts0 w (List.mem_cons_of_mem _ hw)) lw_privs_ok
    have hml : c.maxLocals = 8 := B.maxLocals_eq (hts0 _ List.mem_cons_self)
    have X₀ : Stand p l e room_1 s m #[Value.ref b] below meth c s₁ [] 0 0 := Stand.of_body B
    have hh0 : s₁.heap = s.heap := by rw [B.state]; rfl
    have hsz : scr.slots.size = xs.length := by rw [← Array.length_toList, hlist, List.length_map]
    have hval : ∀ j : Nat, j < xs.length → scr.slots[j]? = some (.int (xs.getD j 0)) := fun j hj => by
      rw [← Array.getElem?_toList, hlist]
      simp [hj]
    have hbl : b < s.heap.size := (Array.getElem?_eq_some_iff.mp hcb).1
    have hX : va_X b xs.length (fun j => xs.getD j 0) s s.heap := ⟨scr, hcb, hof, hkn, hsz, hval⟩
    have K : W p l e room_1 s m #[Value.ref b] below meth c s₁.heap [] 0 0 (lw_Z below #[Value.ref b] s) (entryFrame m ([Value.ref b] : List Value).toArray 8) := by
      rw [hh0]
      exact a_whole l hbd (A l hfl _ _ hbd) B.exec B.bytes B.returns hml hown hts hX hbl B.notSynchronized hgv (B.noHandlers (hts0 _ List.mem_cons_self)) (name_of_methodNamed B.named B.method).1
    obtain ⟨t, a1, o, b1, b2, b3⟩ := K s₁ rfl X₀
    exact ⟨t, o, a1, b1, b2, b3⟩
theorem lw_pre_spec {args : Array Value} {s : State} (h : (Jvm.Cond.and given_1 narrow_1).before args s = true) (hr : rest_1_c.before args s = true) : ∃ (b : Addr) (xs : List Int32), lw_P b xs args s := by
  have hs := flat_of_before _ h
  have hq := flat_of_before _ hr
  have hc : (Cond.count 1).before args s = true := hs _ (by decide +kernel)
  have harr : (Cond.arrayOf (.arg 0) .int).before args s = true := hs _ (by decide +kernel)
  have hle : (Cond.le (.length (.arg 0)) (.int 3072)).before args s = true := hs _ (by decide +kernel)
  have hlen : (Cond.isInt (.length (.arg 0))).before args s = true := hq _ (by decide +kernel)
  have hall : (Cond.all (.arg 0) (.isInt (.elem (.arg 0) (.index 0)))).before args s = true := hq _ (by decide +kernel)
  obtain ⟨b, xs, hb, hx⟩ := State.ints_of_pre rfl harr hlen hall
  have hsm : xs.length < 2 ^ 31 := hx.choose_spec.2.2.2
  have hev : (Term.length (.arg 0)).eval args s none [] s = some (.int xs.length.toInt32) := hx.length_eval hb
  have hv := Cond.le_ints hev (show (Term.int 3072).eval args s none [] s = some (.int 3072) from rfl)
  have hd : xs.length.toInt32 ≤ 3072 := by
    simpa [Cond.before, Cond.holds, hv] using hle
  have hN : xs.length ≤ 3072 := (Int32.ofNat_le_ofNat hsm (by decide)).mp (show Int32.ofNat xs.length ≤ Int32.ofNat 3072 from hd)
  exact ⟨b, xs, Cond.one_arg hc (show args[0]? = some (.ref b) from hb), hx, hN, h⟩
theorem lw_comes (A : a_Law) (l : Launch) (hfl : l.flags = flags0) : Comes l x (Jvm.Cond.code x code maxLocals ret :: tables_1) room_1 (fun tb e args s => Calls_1 tb e args s ∧ rest_1 tb e args s ∧ Pre_1 tb e args s)
    (fun _ _ args s o t => lw_Q args s o t) := by
  intro p e ha hc hk s m args below hf hfit hheap happ hpre
  obtain ⟨b, xs, hP⟩ := lw_pre_spec hpre.2.2 hpre.2.1
  obtain ⟨k, o, h1, h2, h3, hQ⟩ := lw_walk A l hfl b xs p e ha hc hk s m args below hf ((Spec.applies_iff_loose hf).mp happ).1 hP trivial
  exact ⟨k, o, h1, h2, h3, hQ⟩
theorem lw_frame {s t : State} {o : Outcome} {args : Array Value} (h : Framed s o t [] 601024 7293034) :
    Framed s o t (fieldLocs frame_1_writes args s ++ arrayLocs frame_1_arrays args s ++ staticLocs frame_1_statics s) 601024 7293034 := h
theorem lw_limb (A : a_Law) (L : Cond) (hL : ∀ (args : Array Value) (s t : State), L.after args s (.returned (some (.int 1))) t = true) :
    ArmFor flags0 classFile x code maxLocals ret World_1 tables_1 room_1 Calls_1 rest_1 Pre_1
      (fun tb e a s o t => postC L tb e a s o t ∧ Framed s o t (fieldLocs frame_1_writes a s ++ arrayLocs frame_1_arrays a s ++ staticLocs frame_1_statics s) 601024 7293034) := by
  intro l hfl _ _ p e ha hc hk s m args below hf hfit hheap happ hpre
  obtain ⟨k, o, h1, h2, h3, rfl, hF⟩ := lw_comes A l hfl p e ha hc hk s m args below hf hfit hheap happ hpre
  exact ⟨k, _, h1, h2, h3, hL args s _, lw_frame hF⟩
/-- THE CLAIM, out of the law's judgement alone -/
theorem a_claim (A : a_Law) : Claimed_1_1 ∧ Claimed_1_2 := ⟨lw_limb A limb_1_1 (fun args s t => by simp [limb_1_1, Cond.after, Cond.holds, Cond.value]), lw_limb A limb_1_2 (fun args s t => Cond.after_iff.mpr (by
  first | (rw [show limb_1_2 = Cond.eq .result (.int 1) from rfl, Cond.eq_ints (x := 1) (y := 1) rfl rfl]; simp; done) | (simp [limb_1_2, Cond.value, Term.eval]; done)))⟩
