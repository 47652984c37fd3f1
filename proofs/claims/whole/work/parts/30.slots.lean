/-! the class's slots -/
section RT
variable {h : Hp}
theorem ks (S : Shp h) {i : Nat} (hi : i < 8) : ByO h (14 + 2 * i) (15 + 2 * i) := by
  refine ⟨(S.1 _ (by omega)).trans ((by decide +kernel : ∀ k : Nat, k < 8 → tK (14 + 2 * k) = 21) i hi), ?_, (S.1 _ (by omega)).trans ((by decide +kernel : ∀ k : Nat, k < 8 → tK (15 + 2 * k) = 2) i hi), by omega, by omega, by omega⟩
  exact S.2.2.1 (14 + 2 * i, 0, 15 + 2 * i) ((by decide +kernel : ∀ k : Nat, k < 8 → (14 + 2 * k, (0 : Int), 15 + 2 * k) ∈ tRl) i hi)
theorem nks (S : Shp h) {i : Nat} (hi : i < 8) : hN h (15 + 2 * i) = 8192 := (S.2.1 _ (by omega) (by omega)).trans (congrArg Int.ofNat ((by decide +kernel : ∀ k : Nat, k < 8 → tN (15 + 2 * k) = 8192) i hi))
theorem kt (S : Shp h) : ByO h 30 31 := ⟨k_30 S, r_30_0 S, k_31 S, by decide, by decide, by decide⟩
end RT
def NeedR (ok : Prop) (e : Nat) (h : Hp) : a_R → Hp → Prop := fun r h2 => (ok ∧ r = .inl none ∧ h2 = h) ∨ (¬ ok ∧ r = .inr (hX h) ∧ h2 = wN h (40 + e) 6)
section RU
variable {l : Launch} {G : a_G} {M M' : a_M} {P P' : a_R → Hp → Prop} {pc : Nat} {lv lv' : List (Nat × AV)} {st : List AV} {h : Hp}
theorem ax_Stn {ok : Prop} {e i n w k : Nat} {as : List AV} (hd : decode (a_cc M) pc = .ok (.invokestatic i, 3)) (c : a_CS M M' i n w k) (k' : AW l G M' (NeedR ok e h) 0 (a_ar 0 as) [] h) (e1 : a_aw as = n) (e2 : a_aw st = w) (e3 : as.length = k) (kr : ok → AW l G M P (pc + 3) lv st h) (kt : ¬ ok → AT l G M P pc lv (hX h) (wN h (40 + e) 6)) : AW l G M P pc lv (as.reverse ++ st) h := by
  refine ax_St hd c k' e1 e2 e3 (fun v h' q => ?_) (fun x h' q => ?_)
  · rcases q with ⟨q1, q2, q3⟩ | ⟨q1, q2, q3⟩
    · cases q2; subst q3; exact kr q1
    · cases q2
  · rcases q with ⟨q1, q2, q3⟩ | ⟨q1, q2, q3⟩
    · cases q2
    · cases q2; subst q3; exact kt q1
theorem ax_Vtn {ok : Prop} {e i ci n w k b : Nat} {as : List AV} (hd : decode (a_cc M) pc = .ok (.invokevirtual i, 3)) (c : a_CV M M' i ci n w k) (hkb : hK h b = 20 + ci) (k' : AW l G M' (NeedR ok e h) 0 (a_ar 0 (vr b :: as)) [] h) (e1 : a_aw (vr b :: as) = n) (e2 : a_aw st = w) (e3 : as.length = k) (kr : ok → AW l G M P (pc + 3) lv st h) (kt : ¬ ok → AT l G M P pc lv (hX h) (wN h (40 + e) 6)) : AW l G M P pc lv (as.reverse ++ (vr b :: st)) h := by
  refine ax_Vt hd c hkb k' e1 e2 e3 (fun v h' q => ?_) (fun x h' q => ?_)
  · rcases q with ⟨q1, q2, q3⟩ | ⟨q1, q2, q3⟩
    · cases q2; subst q3; exact kr q1
    · cases q2
  · rcases q with ⟨q1, q2, q3⟩ | ⟨q1, q2, q3⟩
    · cases q2
    · cases q2; subst q3; exact kt q1
end RU
def OpR (h : Hp) (I L : Nat → Int → Int) (ce : Int → Nat) (code : Int) (Qv : AV → Prop) (J : Nat → Int → Int) : a_R → Hp → Prop := fun r h2 => (code = 0 ∧ ∃ v, Qv v ∧ r = .inl (some v) ∧ h2 = sD h J L) ∨ (code ≠ 0 ∧ r = .inr (hX h) ∧ h2 = wN (sD h I L) (40 + ce code) 6)
def cFeed (t : Int) : Int := if t ≤ 8172 then 0 else 1
def cEnd (t s n : Int) : Int := if (0 ≤ s ∧ s < 8) ∧ (0 ≤ n ∧ n ≤ 8192) then (if n ≤ t then 0 else 2) else 1
def cTwo (s u : Int) : Int := if (0 ≤ s ∧ s < 8) ∧ (0 ≤ u ∧ u < 8) then 0 else 1
def cResize (s n : Int) : Int := if (0 ≤ s ∧ s < 8) ∧ (0 ≤ n ∧ n ≤ 8192) then 0 else 1
def cAlter (c s i v : Int) : Int := if (0 ≤ s ∧ s < 8) ∧ (0 ≤ v ∧ v ≤ 255) then (if 0 ≤ i ∧ i < c then 0 else 2) else 1
def cLen (s : Int) : Int := if 0 ≤ s ∧ s < 8 then 0 else 1
def cWord (c s i : Int) : Int := if 0 ≤ s ∧ s < 8 then (if 0 ≤ i ∧ i < c then 0 else 2) else 1
/-- which exception a code stands for, where 1 is IllegalArgument and 2 IndexOutOfBounds -/
def ceA (c : Int) : Nat := if c = 1 then 0 else 1
def ceF (_ : Int) : Nat := 1
def CB (I : Nat → Int → Int) : Prop := (∀ s : Nat, s < 8 → 0 ≤ I (14 + 2 * s) 1 ∧ I (14 + 2 * s) 1 ≤ 8192) ∧ 0 ≤ I 30 1 ∧ I 30 1 ≤ 8192
def gI (v : Int) : Int → Int := fun k => v / 2 ^ (24 - 8 * k.toNat)
def jFeed (I : Nat → Int → Int) (a b c d e : Int) : Nat → Int → Int := byPut (byPut (byPut (byPut (byPut I 30 31 4 (gI a)) 30 31 4 (gI b)) 30 31 4 (gI c)) 30 31 4 (gI d)) 30 31 4 (gI e)
def wdP (g : Int → Int) (i : Int) : Nat → Int
  | 0 => 0
  | k + 1 => a_lor (a_lshl (wdP g i k) 8) (g (i + k))
theorem opOk {h : Hp} {I L J : Nat → Int → Int} {ce : Int → Nat} {code : Int} {Qv : AV → Prop} (v : AV) (hv : Qv v) (hc : code = 0) : OpR h I L ce code Qv J (.inl (some v)) (sD h J L) := Or.inl ⟨hc, v, hv, rfl, rfl⟩
theorem opNo {h : Hp} {I L J : Nat → Int → Int} {ce : Int → Nat} {code : Int} {Qv : AV → Prop} (c : Int) (e : Nat) (hc : code = c) (h0 : c ≠ 0) (he : ce c = e) : OpR h I L ce code Qv J (.inr (hX h)) (wN (sD h I L) (40 + e) 6) := by
  subst hc; subst he
  exact Or.inr ⟨h0, rfl, rfl⟩
set_option maxHeartbeats 800000 in
set_option maxRecDepth 100000 in
theorem c_MS_needSlot {l : Launch} {G : a_G} {h : Hp} {s : Int} (hfl : l.flags = flags0) (rm : hX h + 1 ≤ a_NX ∧ hU h + 6 ≤ a_US) : AW l G M_MS_needSlot (NeedR (0 ≤ s ∧ s < 8) 0 h) 0 (a_ar 0 [vi s]) [] (h) := by
  suffices key : ∀ P : a_R → Hp → Prop, (∀ r h2, NeedR (0 ≤ s ∧ s < 8) 0 h r h2 → P r h2) → AW l G M_MS_needSlot P 0 [(0, vi s)] [] (h) from key _ (fun _ _ q => q)
  intro P hP
  refine aw_iload_n d_MS_needSlot_0 rfl rfl ?_
  refine aw_if_lt (tgt := 10) d_MS_needSlot_1 (by decide) (fun c_1 => ?_) (fun c_1 => ?_)
  · skip
    exact ax_throw hfl th_MS_needSlot_10 rm.1 rm.2 (hP _ _ (Or.inr ⟨by omega, rfl, rfl⟩))
  · skip
    refine aw_iload_n d_MS_needSlot_4 rfl rfl ?_
    refine aw_bipush d_MS_needSlot_5 ⟨by decide, by decide⟩ (by decide) ?_
    refine aw_icmp_lt (tgt := 20) d_MS_needSlot_7 (by decide) (fun c_7 => ?_) (fun c_7 => ?_)
    · skip
      exact aw_vret d_MS_needSlot_20 rfl (hP _ _ (Or.inl ⟨by omega, rfl, rfl⟩))
    · skip
      exact ax_throw hfl th_MS_needSlot_10 rm.1 rm.2 (hP _ _ (Or.inr ⟨by omega, rfl, rfl⟩))
set_option maxHeartbeats 800000 in
set_option maxRecDepth 100000 in
theorem c_MS_needSize {l : Launch} {G : a_G} {h : Hp} {s : Int} (hfl : l.flags = flags0) (rm : hX h + 1 ≤ a_NX ∧ hU h + 6 ≤ a_US) : AW l G M_MS_needSize (NeedR (0 ≤ s ∧ s ≤ 8192) 0 h) 0 (a_ar 0 [vi s]) [] (h) := by
  suffices key : ∀ P : a_R → Hp → Prop, (∀ r h2, NeedR (0 ≤ s ∧ s ≤ 8192) 0 h r h2 → P r h2) → AW l G M_MS_needSize P 0 [(0, vi s)] [] (h) from key _ (fun _ _ q => q)
  intro P hP
  refine aw_iload_n d_MS_needSize_0 rfl rfl ?_
  refine aw_if_lt (tgt := 11) d_MS_needSize_1 (by decide) (fun c_1 => ?_) (fun c_1 => ?_)
  · skip
    exact ax_throw hfl th_MS_needSize_11 rm.1 rm.2 (hP _ _ (Or.inr ⟨by omega, rfl, rfl⟩))
  · skip
    refine aw_iload_n d_MS_needSize_4 rfl rfl ?_
    refine aw_sipush d_MS_needSize_5 ⟨by decide, by decide⟩ (by decide) ?_
    refine aw_icmp_le (tgt := 21) d_MS_needSize_8 (by decide) (fun c_8 => ?_) (fun c_8 => ?_)
    · skip
      exact aw_vret d_MS_needSize_21 rfl (hP _ _ (Or.inl ⟨by omega, rfl, rfl⟩))
    · skip
      exact ax_throw hfl th_MS_needSize_11 rm.1 rm.2 (hP _ _ (Or.inr ⟨by omega, rfl, rfl⟩))
set_option maxHeartbeats 800000 in
set_option maxRecDepth 100000 in
theorem c_MS_needPlace {l : Launch} {G : a_G} {h : Hp} {I L : Nat → Int → Int} {s i : Int} (S : Shp h) (hfl : l.flags = flags0) (rm : hX h + 1 ≤ a_NX ∧ hU h + 6 ≤ a_US) (hs : 0 ≤ s ∧ s < 8) : AW l G M_MS_needPlace (NeedR (0 ≤ i ∧ i < I (14 + 2 * s.toNat) 1) 1 (sD h I L)) 0 (a_ar 0 [vr 12, vi s, vi i]) [] (sD h I L) := by
  suffices key : ∀ P : a_R → Hp → Prop, (∀ r h2, NeedR (0 ≤ i ∧ i < I (14 + 2 * s.toNat) 1) 1 (sD h I L) r h2 → P r h2) → AW l G M_MS_needPlace P 0 [(0, vr 12), (1, vi s), (2, vi i)] [] (sD h I L) from key _ (fun _ _ q => q)
  intro P hP
  refine aw_iload_n d_MS_needPlace_0 rfl rfl ?_
  refine aw_if_lt (tgt := 17) d_MS_needPlace_1 (by decide) (fun c_1 => ?_) (fun c_1 => ?_)
  · skip
    exact ax_throw hfl th_MS_needPlace_17 rm.1 rm.2 (hP _ _ (Or.inr ⟨by omega, rfl, rfl⟩))
  · skip
    refine aw_iload_n d_MS_needPlace_4 rfl rfl ?_
    refine aw_aload_n d_MS_needPlace_5 rfl rfl ?_
    refine ax_getR (b := 13) d_MS_needPlace_6 fd_MS_11 (k_12 S) (r_12_0 S) ?_
    refine aw_iload_n d_MS_needPlace_9 rfl rfl ?_
    refine ax_aald (b := 14 + 2 * s.toNat) d_MS_needPlace_10 ⟨by rw [(k_13 S)]; decide, by rw [(k_13 S)]; decide⟩ (by omega) (by rw [n_13 S]; omega) (g_13 S (by omega) (by omega)) ?_
    refine ax_getIe (x := I (14 + 2 * s.toNat) 1) d_MS_needPlace_11 fd_MS_55 (ks S (by omega)).1 (rfl) ?_
    refine aw_icmp_lt (tgt := 27) d_MS_needPlace_14 (by decide) (fun c_14 => ?_) (fun c_14 => ?_)
    · skip
      exact aw_vret d_MS_needPlace_27 rfl (hP _ _ (Or.inl ⟨by omega, rfl, rfl⟩))
    · skip
      exact ax_throw hfl th_MS_needPlace_17 rm.1 rm.2 (hP _ _ (Or.inr ⟨by omega, rfl, rfl⟩))
set_option maxHeartbeats 800000 in
set_option maxRecDepth 100000 in
theorem c_MS_feed {l : Launch} {G : a_G} {h : Hp} {I L : Nat → Int → Int} {a b c d e : Int} (S : Shp h) (hfl : l.flags = flags0) (rm : hX h + 1 ≤ a_NX ∧ hU h + 6 ≤ a_US) (cb : CB I) : AW l G M_MS_feed (OpR h I L ceF (cFeed (I 30 1)) (fun v => v = vi (I 30 1 + 20)) (jFeed I a b c d e)) 0 (a_ar 0 [vr 12, vi a, vi b, vi c, vi d, vi e]) [] (sD h I L) := by
  suffices key : ∀ P : a_R → Hp → Prop, (∀ r h2, OpR h I L ceF (cFeed (I 30 1)) (fun v => v = vi (I 30 1 + 20)) (jFeed I a b c d e) r h2 → P r h2) → AW l G M_MS_feed P 0 [(0, vr 12), (1, vi a), (2, vi b), (3, vi c), (4, vi d), (5, vi e)] [] (sD h I L) from key _ (fun _ _ q => q)
  intro P hP
  refine ax_ok (fun _ _ _ okl => ?_)
  have cb2 := cb.2
  refine aw_aload_n d_MS_feed_0 rfl rfl ?_
  refine ax_getR (b := 30) d_MS_feed_1 fd_MS_18 (k_12 S) (r_12_1 S) ?_
  refine ax_getIe (x := I 30 1) d_MS_feed_4 fd_MS_55 (k_30 S) (rfl) ?_
  refine aw_sipush d_MS_feed_7 ⟨by decide, by decide⟩ (by decide) ?_
  refine aw_icmp_le (tgt := 23) d_MS_feed_10 (by decide) (fun c_10 => ?_) (fun c_10 => ?_)
  · skip
    refine aw_aload_n d_MS_feed_23 rfl rfl ?_
    refine ax_getR (b := 30) d_MS_feed_24 fd_MS_18 (k_12 S) (r_12_1 S) ?_
    refine aw_iload_n d_MS_feed_27 rfl rfl ?_
    refine ax_V (st := []) (as := [vi a]) (b := 30) (v := none) (h' := sD h (byPut I 30 31 4 (gI a)) L) d_MS_feed_28 cs_MS_feed_28 (k_30 S) (c_By_addInt (kt S) (by rw [n_31 S]; omega) (okl (1, vi a) (by simp))) rfl rfl rfl ?_
    show AW l G M_MS_feed P 31 [(0, vr 12), (1, vi a), (2, vi b), (3, vi c), (4, vi d), (5, vi e)] [] (sD h (byPut I 30 31 4 (gI a)) L)
    refine aw_aload_n d_MS_feed_31 rfl rfl ?_
    refine ax_getR (b := 30) d_MS_feed_32 fd_MS_18 (k_12 S) (r_12_1 S) ?_
    refine aw_iload_n d_MS_feed_35 rfl rfl ?_
    refine ax_V (st := []) (as := [vi b]) (b := 30) (v := none) (h' := sD h (byPut (byPut I 30 31 4 (gI a)) 30 31 4 (gI b)) L) d_MS_feed_36 cs_MS_feed_36 (k_30 S) (c_By_addInt (kt S) (by rw [n_31 S, byPut_cnt]; omega) (okl (2, vi b) (by simp))) rfl rfl rfl ?_
    show AW l G M_MS_feed P 39 [(0, vr 12), (1, vi a), (2, vi b), (3, vi c), (4, vi d), (5, vi e)] [] (sD h (byPut (byPut I 30 31 4 (gI a)) 30 31 4 (gI b)) L)
    refine aw_aload_n d_MS_feed_39 rfl rfl ?_
    refine ax_getR (b := 30) d_MS_feed_40 fd_MS_18 (k_12 S) (r_12_1 S) ?_
    refine aw_iload_n d_MS_feed_43 rfl rfl ?_
    refine ax_V (st := []) (as := [vi c]) (b := 30) (v := none) (h' := sD h (byPut (byPut (byPut I 30 31 4 (gI a)) 30 31 4 (gI b)) 30 31 4 (gI c)) L) d_MS_feed_44 cs_MS_feed_44 (k_30 S) (c_By_addInt (kt S) (by rw [n_31 S, byPut_cnt, byPut_cnt]; omega) (okl (3, vi c) (by simp))) rfl rfl rfl ?_
    show AW l G M_MS_feed P 47 [(0, vr 12), (1, vi a), (2, vi b), (3, vi c), (4, vi d), (5, vi e)] [] (sD h (byPut (byPut (byPut I 30 31 4 (gI a)) 30 31 4 (gI b)) 30 31 4 (gI c)) L)
    refine aw_aload_n d_MS_feed_47 rfl rfl ?_
    refine ax_getR (b := 30) d_MS_feed_48 fd_MS_18 (k_12 S) (r_12_1 S) ?_
    refine aw_iload d_MS_feed_51 rfl ?_
    refine ax_V (st := []) (as := [vi d]) (b := 30) (v := none) (h' := sD h (byPut (byPut (byPut (byPut I 30 31 4 (gI a)) 30 31 4 (gI b)) 30 31 4 (gI c)) 30 31 4 (gI d)) L) d_MS_feed_53 cs_MS_feed_53 (k_30 S) (c_By_addInt (kt S) (by rw [n_31 S, byPut_cnt, byPut_cnt, byPut_cnt]; omega) (okl (4, vi d) (by simp))) rfl rfl rfl ?_
    show AW l G M_MS_feed P 56 [(0, vr 12), (1, vi a), (2, vi b), (3, vi c), (4, vi d), (5, vi e)] [] (sD h (byPut (byPut (byPut (byPut I 30 31 4 (gI a)) 30 31 4 (gI b)) 30 31 4 (gI c)) 30 31 4 (gI d)) L)
    refine aw_aload_n d_MS_feed_56 rfl rfl ?_
    refine ax_getR (b := 30) d_MS_feed_57 fd_MS_18 (k_12 S) (r_12_1 S) ?_
    refine aw_iload d_MS_feed_60 rfl ?_
    refine ax_V (st := []) (as := [vi e]) (b := 30) (v := none) (h' := sD h (byPut (byPut (byPut (byPut (byPut I 30 31 4 (gI a)) 30 31 4 (gI b)) 30 31 4 (gI c)) 30 31 4 (gI d)) 30 31 4 (gI e)) L) d_MS_feed_62 cs_MS_feed_62 (k_30 S) (c_By_addInt (kt S) (by rw [n_31 S, byPut_cnt, byPut_cnt, byPut_cnt, byPut_cnt]; omega) (okl (5, vi e) (by simp))) rfl rfl rfl ?_
    show AW l G M_MS_feed P 65 [(0, vr 12), (1, vi a), (2, vi b), (3, vi c), (4, vi d), (5, vi e)] [] (sD h (byPut (byPut (byPut (byPut (byPut I 30 31 4 (gI a)) 30 31 4 (gI b)) 30 31 4 (gI c)) 30 31 4 (gI d)) 30 31 4 (gI e)) L)
    refine aw_aload_n d_MS_feed_65 rfl rfl ?_
    refine ax_getR (b := 30) d_MS_feed_66 fd_MS_18 (k_12 S) (r_12_1 S) ?_
    refine ax_getIe (x := I 30 1 + 20) d_MS_feed_69 fd_MS_55 (k_30 S) ((show (byPut (byPut (byPut (byPut (byPut I 30 31 4 (gI a)) 30 31 4 (gI b)) 30 31 4 (gI c)) 30 31 4 (gI d)) 30 31 4 (gI e)) 30 1 = I 30 1 + 20 by rw [byPut_cnt, byPut_cnt, byPut_cnt, byPut_cnt, byPut_cnt]; omega)) ?_
    exact aw_iret d_MS_feed_72 rfl (hP _ _ (opOk _ rfl (by unfold cFeed; rw [if_pos (by omega)])))
  · skip
    exact ax_throw hfl th_MS_feed_13 rm.1 rm.2 (hP _ _ (opNo 1 1 (by unfold cFeed; rw [if_neg (by omega)]) (by decide) rfl))
set_option maxHeartbeats 800000 in
set_option maxRecDepth 100000 in
theorem c_MS_end {l : Launch} {G : a_G} {h : Hp} {I L : Nat → Int → Int} {s n : Int} (S : Shp h) (hfl : l.flags = flags0) (rm : hX h + 1 ≤ a_NX ∧ hU h + 6 ≤ a_US) (cb : CB I) : AW l G M_MS_end (OpR h I L ceA (cEnd (I 30 1) s n) (fun v => v = vi n) (a_up (byBecome I (14 + 2 * s.toNat) (15 + 2 * s.toNat) 31 n) 30 1 0)) 0 (a_ar 0 [vr 12, vi s, vi n]) [] (sD h I L) := by
  suffices key : ∀ P : a_R → Hp → Prop, (∀ r h2, OpR h I L ceA (cEnd (I 30 1) s n) (fun v => v = vi n) (a_up (byBecome I (14 + 2 * s.toNat) (15 + 2 * s.toNat) 31 n) 30 1 0) r h2 → P r h2) → AW l G M_MS_end P 0 [(0, vr 12), (1, vi s), (2, vi n)] [] (sD h I L) from key _ (fun _ _ q => q)
  intro P hP
  refine aw_iload_n d_MS_end_0 rfl rfl ?_
  refine ax_Stn (st := []) (as := [vi s]) d_MS_end_1 cs_MS_end_1 (c_MS_needSlot hfl rm) rfl rfl rfl (fun ok_1 => ?_) (fun no_1 => at_leave rfl (hP _ _ (opNo 1 0 (by unfold cEnd; rw [if_neg (by omega)]) (by decide) rfl)))
  show AW l G M_MS_end P 4 [(0, vr 12), (1, vi s), (2, vi n)] [] (sD h I L)
  refine aw_iload_n d_MS_end_4 rfl rfl ?_
  refine ax_Stn (st := []) (as := [vi n]) d_MS_end_5 cs_MS_end_5 (c_MS_needSize hfl rm) rfl rfl rfl (fun ok_5 => ?_) (fun no_5 => at_leave rfl (hP _ _ (opNo 1 0 (by unfold cEnd; rw [if_neg (by omega)]) (by decide) rfl)))
  show AW l G M_MS_end P 8 [(0, vr 12), (1, vi s), (2, vi n)] [] (sD h I L)
  refine aw_aload_n d_MS_end_8 rfl rfl ?_
  refine ax_getR (b := 30) d_MS_end_9 fd_MS_18 (k_12 S) (r_12_1 S) ?_
  refine ax_getIe (x := I 30 1) d_MS_end_12 fd_MS_55 (k_30 S) (rfl) ?_
  refine aw_iload_n d_MS_end_15 rfl rfl ?_
  refine aw_icmp_ge (tgt := 29) d_MS_end_16 (by decide) (fun c_16 => ?_) (fun c_16 => ?_)
  · skip
    refine aw_aload_n d_MS_end_29 rfl rfl ?_
    refine ax_getR (b := 13) d_MS_end_30 fd_MS_11 (k_12 S) (r_12_0 S) ?_
    refine aw_iload_n d_MS_end_33 rfl rfl ?_
    refine ax_aald (b := 14 + 2 * s.toNat) d_MS_end_34 ⟨by rw [(k_13 S)]; decide, by rw [(k_13 S)]; decide⟩ (by omega) (by rw [n_13 S]; omega) (g_13 S (by omega) (by omega)) ?_
    refine aw_aload_n d_MS_end_35 rfl rfl ?_
    refine ax_getR (b := 30) d_MS_end_36 fd_MS_18 (k_12 S) (r_12_1 S) ?_
    refine aw_iload_n d_MS_end_39 rfl rfl ?_
    refine ax_V (st := []) (as := [vr 30, vi n]) (b := 14 + 2 * s.toNat) (v := none) (h' := sD h (byBecome I (14 + 2 * s.toNat) (15 + 2 * s.toNat) 31 n) L) d_MS_end_40 cs_MS_end_40 (ks S (by omega)).1 (c_By_become (ks S (by omega)) (kt S) (by rw [n_31 S, nks S (by omega)]; have := cb.2; omega)) rfl rfl rfl ?_
    show AW l G M_MS_end P 43 [(0, vr 12), (1, vi s), (2, vi n)] [] (sD h (byBecome I (14 + 2 * s.toNat) (15 + 2 * s.toNat) 31 n) L)
    refine aw_aload_n d_MS_end_43 rfl rfl ?_
    refine ax_getR (b := 30) d_MS_end_44 fd_MS_18 (k_12 S) (r_12_1 S) ?_
    refine ax_V (st := []) (as := []) (b := 30) (v := none) (h' := sD h (a_up (byBecome I (14 + 2 * s.toNat) (15 + 2 * s.toNat) 31 n) 30 1 0) L) d_MS_end_47 cs_MS_end_47 (k_30 S) (c_By_clear (kt S)) rfl rfl rfl ?_
    show AW l G M_MS_end P 50 [(0, vr 12), (1, vi s), (2, vi n)] [] (sD h (a_up (byBecome I (14 + 2 * s.toNat) (15 + 2 * s.toNat) 31 n) 30 1 0) L)
    refine aw_iload_n d_MS_end_50 rfl rfl ?_
    exact aw_iret d_MS_end_51 rfl (hP _ _ (opOk _ rfl (by unfold cEnd; rw [if_pos (by omega), if_pos (by omega)])))
  · skip
    exact ax_throw hfl th_MS_end_19 rm.1 rm.2 (hP _ _ (opNo 2 1 (by unfold cEnd; rw [if_pos (by omega), if_neg (by omega)]) (by decide) rfl))
set_option maxHeartbeats 800000 in
set_option maxRecDepth 100000 in
theorem c_MS_copy {l : Launch} {G : a_G} {h : Hp} {I L : Nat → Int → Int} {s u : Int} (S : Shp h) (hfl : l.flags = flags0) (rm : hX h + 1 ≤ a_NX ∧ hU h + 6 ≤ a_US) (cb : CB I) : AW l G M_MS_copy (OpR h I L ceA (cTwo s u) (fun v => v = vi (I (14 + 2 * s.toNat) 1)) (byBecome I (14 + 2 * u.toNat) (15 + 2 * u.toNat) (15 + 2 * s.toNat) (I (14 + 2 * s.toNat) 1))) 0 (a_ar 0 [vr 12, vi s, vi u]) [] (sD h I L) := by
  suffices key : ∀ P : a_R → Hp → Prop, (∀ r h2, OpR h I L ceA (cTwo s u) (fun v => v = vi (I (14 + 2 * s.toNat) 1)) (byBecome I (14 + 2 * u.toNat) (15 + 2 * u.toNat) (15 + 2 * s.toNat) (I (14 + 2 * s.toNat) 1)) r h2 → P r h2) → AW l G M_MS_copy P 0 [(0, vr 12), (1, vi s), (2, vi u)] [] (sD h I L) from key _ (fun _ _ q => q)
  intro P hP
  refine aw_iload_n d_MS_copy_0 rfl rfl ?_
  refine ax_Stn (st := []) (as := [vi s]) d_MS_copy_1 cs_MS_copy_1 (c_MS_needSlot hfl rm) rfl rfl rfl (fun ok_1 => ?_) (fun no_1 => at_leave rfl (hP _ _ (opNo 1 0 (by unfold cTwo; rw [if_neg (by omega)]) (by decide) rfl)))
  show AW l G M_MS_copy P 4 [(0, vr 12), (1, vi s), (2, vi u)] [] (sD h I L)
  refine aw_iload_n d_MS_copy_4 rfl rfl ?_
  refine ax_Stn (st := []) (as := [vi u]) d_MS_copy_5 cs_MS_copy_5 (c_MS_needSlot hfl rm) rfl rfl rfl (fun ok_5 => ?_) (fun no_5 => at_leave rfl (hP _ _ (opNo 1 0 (by unfold cTwo; rw [if_neg (by omega)]) (by decide) rfl)))
  show AW l G M_MS_copy P 8 [(0, vr 12), (1, vi s), (2, vi u)] [] (sD h I L)
  refine aw_aload_n d_MS_copy_8 rfl rfl ?_
  refine ax_getR (b := 13) d_MS_copy_9 fd_MS_11 (k_12 S) (r_12_0 S) ?_
  refine aw_iload_n d_MS_copy_12 rfl rfl ?_
  refine ax_aald (b := 14 + 2 * u.toNat) d_MS_copy_13 ⟨by rw [(k_13 S)]; decide, by rw [(k_13 S)]; decide⟩ (by omega) (by rw [n_13 S]; omega) (g_13 S (by omega) (by omega)) ?_
  refine aw_aload_n d_MS_copy_14 rfl rfl ?_
  refine ax_getR (b := 13) d_MS_copy_15 fd_MS_11 (k_12 S) (r_12_0 S) ?_
  refine aw_iload_n d_MS_copy_18 rfl rfl ?_
  refine ax_aald (b := 14 + 2 * s.toNat) d_MS_copy_19 ⟨by rw [(k_13 S)]; decide, by rw [(k_13 S)]; decide⟩ (by omega) (by rw [n_13 S]; omega) (g_13 S (by omega) (by omega)) ?_
  refine aw_aload_n d_MS_copy_20 rfl rfl ?_
  refine ax_getR (b := 13) d_MS_copy_21 fd_MS_11 (k_12 S) (r_12_0 S) ?_
  refine aw_iload_n d_MS_copy_24 rfl rfl ?_
  refine ax_aald (b := 14 + 2 * s.toNat) d_MS_copy_25 ⟨by rw [(k_13 S)]; decide, by rw [(k_13 S)]; decide⟩ (by omega) (by rw [n_13 S]; omega) (g_13 S (by omega) (by omega)) ?_
  refine ax_getIe (x := I (14 + 2 * s.toNat) 1) d_MS_copy_26 fd_MS_55 (ks S (by omega)).1 (rfl) ?_
  refine ax_V (st := []) (as := [vr (14 + 2 * s.toNat), vi (I (14 + 2 * s.toNat) 1)]) (b := 14 + 2 * u.toNat) (v := none) (h' := sD h (byBecome I (14 + 2 * u.toNat) (15 + 2 * u.toNat) (15 + 2 * s.toNat) (I (14 + 2 * s.toNat) 1)) L) d_MS_copy_29 cs_MS_copy_29 (ks S (by omega)).1 (c_By_become (ks S (by omega)) (ks S (by omega)) (by rw [nks S (by omega), nks S (by omega)]; have := cb.1 s.toNat (by omega); omega)) rfl rfl rfl ?_
  show AW l G M_MS_copy P 32 [(0, vr 12), (1, vi s), (2, vi u)] [] (sD h (byBecome I (14 + 2 * u.toNat) (15 + 2 * u.toNat) (15 + 2 * s.toNat) (I (14 + 2 * s.toNat) 1)) L)
  refine aw_aload_n d_MS_copy_32 rfl rfl ?_
  refine ax_getR (b := 13) d_MS_copy_33 fd_MS_11 (k_12 S) (r_12_0 S) ?_
  refine aw_iload_n d_MS_copy_36 rfl rfl ?_
  refine ax_aald (b := 14 + 2 * u.toNat) d_MS_copy_37 ⟨by rw [(k_13 S)]; decide, by rw [(k_13 S)]; decide⟩ (by omega) (by rw [n_13 S]; omega) (g_13 S (by omega) (by omega)) ?_
  refine ax_getIe (x := I (14 + 2 * s.toNat) 1) d_MS_copy_38 fd_MS_55 (ks S (by omega)).1 (a_up_at) ?_
  exact aw_iret d_MS_copy_41 rfl (hP _ _ (opOk _ rfl (by unfold cTwo; rw [if_pos (by omega)])))
set_option maxHeartbeats 800000 in
set_option maxRecDepth 100000 in
theorem c_MS_resize {l : Launch} {G : a_G} {h : Hp} {I L : Nat → Int → Int} {s n : Int} (S : Shp h) (hfl : l.flags = flags0) (rm : hX h + 1 ≤ a_NX ∧ hU h + 6 ≤ a_US) (cb : CB I) : AW l G M_MS_resize (OpR h I L ceA (cResize s n) (fun v => v = vi (I (14 + 2 * s.toNat) 1)) (byStretch I (14 + 2 * s.toNat) (15 + 2 * s.toNat) n)) 0 (a_ar 0 [vr 12, vi s, vi n]) [] (sD h I L) := by
  suffices key : ∀ P : a_R → Hp → Prop, (∀ r h2, OpR h I L ceA (cResize s n) (fun v => v = vi (I (14 + 2 * s.toNat) 1)) (byStretch I (14 + 2 * s.toNat) (15 + 2 * s.toNat) n) r h2 → P r h2) → AW l G M_MS_resize P 0 [(0, vr 12), (1, vi s), (2, vi n)] [] (sD h I L) from key _ (fun _ _ q => q)
  intro P hP
  refine aw_iload_n d_MS_resize_0 rfl rfl ?_
  refine ax_Stn (st := []) (as := [vi s]) d_MS_resize_1 cs_MS_resize_1 (c_MS_needSlot hfl rm) rfl rfl rfl (fun ok_1 => ?_) (fun no_1 => at_leave rfl (hP _ _ (opNo 1 0 (by unfold cResize; rw [if_neg (by omega)]) (by decide) rfl)))
  show AW l G M_MS_resize P 4 [(0, vr 12), (1, vi s), (2, vi n)] [] (sD h I L)
  refine aw_iload_n d_MS_resize_4 rfl rfl ?_
  refine ax_Stn (st := []) (as := [vi n]) d_MS_resize_5 cs_MS_resize_5 (c_MS_needSize hfl rm) rfl rfl rfl (fun ok_5 => ?_) (fun no_5 => at_leave rfl (hP _ _ (opNo 1 0 (by unfold cResize; rw [if_neg (by omega)]) (by decide) rfl)))
  show AW l G M_MS_resize P 8 [(0, vr 12), (1, vi s), (2, vi n)] [] (sD h I L)
  refine aw_aload_n d_MS_resize_8 rfl rfl ?_
  refine ax_getR (b := 13) d_MS_resize_9 fd_MS_11 (k_12 S) (r_12_0 S) ?_
  refine aw_iload_n d_MS_resize_12 rfl rfl ?_
  refine ax_aald (b := 14 + 2 * s.toNat) d_MS_resize_13 ⟨by rw [(k_13 S)]; decide, by rw [(k_13 S)]; decide⟩ (by omega) (by rw [n_13 S]; omega) (g_13 S (by omega) (by omega)) ?_
  refine ax_getIe (x := I (14 + 2 * s.toNat) 1) d_MS_resize_14 fd_MS_55 (ks S (by omega)).1 (rfl) ?_
  refine aw_istore_n (lv' := [(3, vi (I (14 + 2 * s.toNat) 1)), (0, vr 12), (1, vi s), (2, vi n)]) d_MS_resize_17 rfl (by decide) rfl ?_
  refine aw_aload_n d_MS_resize_18 rfl rfl ?_
  refine ax_getR (b := 13) d_MS_resize_19 fd_MS_11 (k_12 S) (r_12_0 S) ?_
  refine aw_iload_n d_MS_resize_22 rfl rfl ?_
  refine ax_aald (b := 14 + 2 * s.toNat) d_MS_resize_23 ⟨by rw [(k_13 S)]; decide, by rw [(k_13 S)]; decide⟩ (by omega) (by rw [n_13 S]; omega) (g_13 S (by omega) (by omega)) ?_
  refine aw_iload_n d_MS_resize_24 rfl rfl ?_
  refine ax_V (st := []) (as := [vi n]) (b := 14 + 2 * s.toNat) (v := none) (h' := sD h (byStretch I (14 + 2 * s.toNat) (15 + 2 * s.toNat) n) L) d_MS_resize_25 cs_MS_resize_25 (ks S (by omega)).1 (c_By_stretch (ks S (by omega)) (by rw [nks S (by omega)]; have := cb.1 s.toNat (by omega); omega)) rfl rfl rfl ?_
  show AW l G M_MS_resize P 28 [(3, vi (I (14 + 2 * s.toNat) 1)), (0, vr 12), (1, vi s), (2, vi n)] [] (sD h (byStretch I (14 + 2 * s.toNat) (15 + 2 * s.toNat) n) L)
  refine aw_iload_n d_MS_resize_28 rfl rfl ?_
  exact aw_iret d_MS_resize_29 rfl (hP _ _ (opOk _ rfl (by unfold cResize; rw [if_pos (by omega)])))
set_option maxHeartbeats 800000 in
set_option maxRecDepth 100000 in
theorem c_MS_alter {l : Launch} {G : a_G} {h : Hp} {I L : Nat → Int → Int} {s i v : Int} (S : Shp h) (hfl : l.flags = flags0) (rm : hX h + 1 ≤ a_NX ∧ hU h + 6 ≤ a_US) (cb : CB I) : AW l G M_MS_alter (OpR h I L ceA (cAlter (I (14 + 2 * s.toNat) 1) s i v) (fun w => w = vi (a_xor (byAt I (14 + 2 * s.toNat) (15 + 2 * s.toNat) i) v)) (a_up I (15 + 2 * s.toNat) i (a_w8 (a_w8 (a_xor (byAt I (14 + 2 * s.toNat) (15 + 2 * s.toNat) i) v))))) 0 (a_ar 0 [vr 12, vi s, vi i, vi v]) [] (sD h I L) := by
  suffices key : ∀ P : a_R → Hp → Prop, (∀ r h2, OpR h I L ceA (cAlter (I (14 + 2 * s.toNat) 1) s i v) (fun w => w = vi (a_xor (byAt I (14 + 2 * s.toNat) (15 + 2 * s.toNat) i) v)) (a_up I (15 + 2 * s.toNat) i (a_w8 (a_w8 (a_xor (byAt I (14 + 2 * s.toNat) (15 + 2 * s.toNat) i) v)))) r h2 → P r h2) → AW l G M_MS_alter P 0 [(0, vr 12), (1, vi s), (2, vi i), (3, vi v)] [] (sD h I L) from key _ (fun _ _ q => q)
  intro P hP
  refine aw_iload_n d_MS_alter_0 rfl rfl ?_
  refine ax_Stn (st := []) (as := [vi s]) d_MS_alter_1 cs_MS_alter_1 (c_MS_needSlot hfl rm) rfl rfl rfl (fun ok_1 => ?_) (fun no_1 => at_leave rfl (hP _ _ (opNo 1 0 (by unfold cAlter; rw [if_neg (by omega)]) (by decide) rfl)))
  show AW l G M_MS_alter P 4 [(0, vr 12), (1, vi s), (2, vi i), (3, vi v)] [] (sD h I L)
  refine aw_iload_n d_MS_alter_4 rfl rfl ?_
  refine aw_if_lt (tgt := 15) d_MS_alter_5 (by decide) (fun c_5 => ?_) (fun c_5 => ?_)
  · skip
    exact ax_throw hfl th_MS_alter_15 rm.1 rm.2 (hP _ _ (opNo 1 0 (by unfold cAlter; rw [if_neg (by omega)]) (by decide) rfl))
  · skip
    refine aw_iload_n d_MS_alter_8 rfl rfl ?_
    refine aw_sipush d_MS_alter_9 ⟨by decide, by decide⟩ (by decide) ?_
    refine aw_icmp_le (tgt := 25) d_MS_alter_12 (by decide) (fun c_12 => ?_) (fun c_12 => ?_)
    · skip
      refine aw_aload_n d_MS_alter_25 rfl rfl ?_
      refine aw_iload_n d_MS_alter_26 rfl rfl ?_
      refine aw_iload_n d_MS_alter_27 rfl rfl ?_
      refine ax_Vtn (st := []) (as := [vi s, vi i]) (b := 12) d_MS_alter_28 cs_MS_alter_28 (k_12 S) (c_MS_needPlace S hfl rm (by omega)) rfl rfl rfl (fun ok_28 => ?_) (fun no_28 => at_leave rfl (hP _ _ (opNo 2 1 (by unfold cAlter; rw [if_pos (by omega), if_neg (by omega)]) (by decide) rfl)))
      show AW l G M_MS_alter P 31 [(0, vr 12), (1, vi s), (2, vi i), (3, vi v)] [] (sD h I L)
      refine aw_aload_n d_MS_alter_31 rfl rfl ?_
      refine ax_getR (b := 13) d_MS_alter_32 fd_MS_11 (k_12 S) (r_12_0 S) ?_
      refine aw_iload_n d_MS_alter_35 rfl rfl ?_
      refine ax_aald (b := 14 + 2 * s.toNat) d_MS_alter_36 ⟨by rw [(k_13 S)]; decide, by rw [(k_13 S)]; decide⟩ (by omega) (by rw [n_13 S]; omega) (g_13 S (by omega) (by omega)) ?_
      refine aw_iload_n d_MS_alter_37 rfl rfl ?_
      refine ax_V (st := []) (as := [vi i]) (b := 14 + 2 * s.toNat) (v := some (vi (byAt I (14 + 2 * s.toNat) (15 + 2 * s.toNat) i))) (h' := sD h I L) d_MS_alter_38 cs_MS_alter_38 (ks S (by omega)).1 (c_By_at (ks S (by omega)) (by rw [nks S (by omega)]; have := cb.1 s.toNat (by omega); omega) rfl) rfl rfl rfl ?_
      show AW l G M_MS_alter P 41 [(0, vr 12), (1, vi s), (2, vi i), (3, vi v)] [vi (byAt I (14 + 2 * s.toNat) (15 + 2 * s.toNat) i)] (sD h I L)
      refine aw_iload_n d_MS_alter_41 rfl rfl ?_
      refine aw_ixor d_MS_alter_42 ?_
      refine aw_istore (lv' := [(4, vi (a_xor (byAt I (14 + 2 * s.toNat) (15 + 2 * s.toNat) i) v)), (0, vr 12), (1, vi s), (2, vi i), (3, vi v)]) d_MS_alter_43 (by decide) rfl ?_
      refine aw_aload_n d_MS_alter_45 rfl rfl ?_
      refine ax_getR (b := 13) d_MS_alter_46 fd_MS_11 (k_12 S) (r_12_0 S) ?_
      refine aw_iload_n d_MS_alter_49 rfl rfl ?_
      refine ax_aald (b := 14 + 2 * s.toNat) d_MS_alter_50 ⟨by rw [(k_13 S)]; decide, by rw [(k_13 S)]; decide⟩ (by omega) (by rw [n_13 S]; omega) (g_13 S (by omega) (by omega)) ?_
      refine ax_getR (b := 15 + 2 * s.toNat) d_MS_alter_51 fd_MS_100 (ks S (by omega)).1 (ks S (by omega)).2.1 ?_
      refine aw_iload_n d_MS_alter_54 rfl rfl ?_
      refine aw_iload d_MS_alter_55 rfl ?_
      refine aw_i2b d_MS_alter_57 ?_
      refine ax_bast d_MS_alter_58 (ks S (by omega)).2.2.1 (by omega) (by omega) (by rw [nks S (by omega)]; have := cb.1 s.toNat (by omega); omega) ?_
      refine aw_iload d_MS_alter_59 rfl ?_
      exact aw_iret d_MS_alter_61 rfl (hP _ _ (opOk _ rfl (by unfold cAlter; rw [if_pos (by omega), if_pos (by omega)])))
    · skip
      exact ax_throw hfl th_MS_alter_15 rm.1 rm.2 (hP _ _ (opNo 1 0 (by unfold cAlter; rw [if_neg (by omega)]) (by decide) rfl))
set_option maxHeartbeats 800000 in
set_option maxRecDepth 100000 in
theorem c_MS_length {l : Launch} {G : a_G} {h : Hp} {I L : Nat → Int → Int} {s : Int} (S : Shp h) (hfl : l.flags = flags0) (rm : hX h + 1 ≤ a_NX ∧ hU h + 6 ≤ a_US) (cb : CB I) : AW l G M_MS_length (OpR h I L ceA (cLen s) (fun v => v = vi (I (14 + 2 * s.toNat) 1)) (I)) 0 (a_ar 0 [vr 12, vi s]) [] (sD h I L) := by
  suffices key : ∀ P : a_R → Hp → Prop, (∀ r h2, OpR h I L ceA (cLen s) (fun v => v = vi (I (14 + 2 * s.toNat) 1)) (I) r h2 → P r h2) → AW l G M_MS_length P 0 [(0, vr 12), (1, vi s)] [] (sD h I L) from key _ (fun _ _ q => q)
  intro P hP
  refine aw_iload_n d_MS_length_0 rfl rfl ?_
  refine ax_Stn (st := []) (as := [vi s]) d_MS_length_1 cs_MS_length_1 (c_MS_needSlot hfl rm) rfl rfl rfl (fun ok_1 => ?_) (fun no_1 => at_leave rfl (hP _ _ (opNo 1 0 (by unfold cLen; rw [if_neg (by omega)]) (by decide) rfl)))
  show AW l G M_MS_length P 4 [(0, vr 12), (1, vi s)] [] (sD h I L)
  refine aw_aload_n d_MS_length_4 rfl rfl ?_
  refine ax_getR (b := 13) d_MS_length_5 fd_MS_11 (k_12 S) (r_12_0 S) ?_
  refine aw_iload_n d_MS_length_8 rfl rfl ?_
  refine ax_aald (b := 14 + 2 * s.toNat) d_MS_length_9 ⟨by rw [(k_13 S)]; decide, by rw [(k_13 S)]; decide⟩ (by omega) (by rw [n_13 S]; omega) (g_13 S (by omega) (by omega)) ?_
  refine ax_getIe (x := I (14 + 2 * s.toNat) 1) d_MS_length_10 fd_MS_55 (ks S (by omega)).1 (rfl) ?_
  exact aw_iret d_MS_length_13 rfl (hP _ _ (opOk _ rfl (by unfold cLen; rw [if_pos (by omega)])))
set_option maxHeartbeats 800000 in
set_option maxRecDepth 100000 in
theorem c_MS_word {l : Launch} {G : a_G} {h : Hp} {I L : Nat → Int → Int} {s i : Int} (S : Shp h) (hfl : l.flags = flags0) (rm : hX h + 1 ≤ a_NX ∧ hU h + 6 ≤ a_US) (cb : CB I) : AW l G M_MS_word (OpR h I L ceA (cWord (I (14 + 2 * s.toNat) 1) s i) (fun v => v = vl (wdP (byAt I (14 + 2 * s.toNat) (15 + 2 * s.toNat)) i 8)) (I)) 0 (a_ar 0 [vr 12, vi s, vi i]) [] (sD h I L) := by
  suffices key : ∀ P : a_R → Hp → Prop, (∀ r h2, OpR h I L ceA (cWord (I (14 + 2 * s.toNat) 1) s i) (fun v => v = vl (wdP (byAt I (14 + 2 * s.toNat) (15 + 2 * s.toNat)) i 8)) (I) r h2 → P r h2) → AW l G M_MS_word P 0 [(0, vr 12), (1, vi s), (2, vi i)] [] (sD h I L) from key _ (fun _ _ q => q)
  intro P hP
  refine aw_iload_n d_MS_word_0 rfl rfl ?_
  refine ax_Stn (st := []) (as := [vi s]) d_MS_word_1 cs_MS_word_1 (c_MS_needSlot hfl rm) rfl rfl rfl (fun ok_1 => ?_) (fun no_1 => at_leave rfl (hP _ _ (opNo 1 0 (by unfold cWord; rw [if_neg (by omega)]) (by decide) rfl)))
  show AW l G M_MS_word P 4 [(0, vr 12), (1, vi s), (2, vi i)] [] (sD h I L)
  refine aw_aload_n d_MS_word_4 rfl rfl ?_
  refine aw_iload_n d_MS_word_5 rfl rfl ?_
  refine aw_iload_n d_MS_word_6 rfl rfl ?_
  refine ax_Vtn (st := []) (as := [vi s, vi i]) (b := 12) d_MS_word_7 cs_MS_word_7 (k_12 S) (c_MS_needPlace S hfl rm (by omega)) rfl rfl rfl (fun ok_7 => ?_) (fun no_7 => at_leave rfl (hP _ _ (opNo 2 1 (by unfold cWord; rw [if_pos (by omega), if_neg (by omega)]) (by decide) rfl)))
  show AW l G M_MS_word P 10 [(0, vr 12), (1, vi s), (2, vi i)] [] (sD h I L)
  refine aw_lconst (x := 0) d_MS_word_10 ⟨by decide, by decide⟩ (by decide) ?_
  refine aw_lstore_n (lv' := [(3, vl 0), (0, vr 12), (1, vi s), (2, vi i)]) d_MS_word_11 rfl (by decide) rfl ?_
  refine aw_iconst d_MS_word_12 ⟨by decide, by decide⟩ ?_
  refine aw_istore (lv' := [(5, vi 0), (3, vl 0), (0, vr 12), (1, vi s), (2, vi i)]) d_MS_word_13 (by decide) rfl ?_
  have lp_15 : ∀ (n_ : Nat) (k : Int) (x : Int), (0 ≤ k ∧ k ≤ 8) → (x = wdP (byAt I (14 + 2 * s.toNat) (15 + 2 * s.toNat)) i k.toNat) → ((8 - k).toNat) = n_ → AW l G M_MS_word P 15 [(5, vi k), (3, vl x), (2, vi i), (1, vi s), (0, vr 12)] [] (sD h I L) := by
    intro n_
    induction n_ using Nat.strongRecOn with
    | _ n_ ih_15 =>
    intro k x hk hx hm_15
    refine aw_iload d_MS_word_15 rfl ?_
    refine aw_bipush d_MS_word_17 ⟨by decide, by decide⟩ (by decide) ?_
    refine aw_icmp_ge (tgt := 48) d_MS_word_19 (by decide) (fun c_19 => ?_) (fun c_19 => ?_)
    · skip
      refine aw_lload_n d_MS_word_48 rfl rfl ?_
      exact aw_lret d_MS_word_49 rfl (hP _ _ (opOk _ (by rw [hx, show k.toNat = 8 by omega]) (by unfold cWord; rw [if_pos (by omega), if_pos (by omega)])))
    · skip
      have cs_ := cb.1 s.toNat (by omega)
      refine aw_lload_n d_MS_word_22 rfl rfl ?_
      refine aw_bipush d_MS_word_23 ⟨by decide, by decide⟩ (by decide) ?_
      refine aw_lshl d_MS_word_25 ?_
      refine aw_aload_n d_MS_word_26 rfl rfl ?_
      refine ax_getR (b := 13) d_MS_word_27 fd_MS_11 (k_12 S) (r_12_0 S) ?_
      refine aw_iload_n d_MS_word_30 rfl rfl ?_
      refine ax_aald (b := 14 + 2 * s.toNat) d_MS_word_31 ⟨by rw [(k_13 S)]; decide, by rw [(k_13 S)]; decide⟩ (by omega) (by rw [n_13 S]; omega) (g_13 S (by omega) (by omega)) ?_
      refine aw_iload_n d_MS_word_32 rfl rfl ?_
      refine aw_iload d_MS_word_33 rfl ?_
      refine ax_iadd d_MS_word_35 ⟨(by omega), (by omega)⟩ ?_
      refine ax_V (st := [vl (a_lshl x 8)]) (as := [vi (i + k)]) (b := 14 + 2 * s.toNat) (v := some (vi (byAt I (14 + 2 * s.toNat) (15 + 2 * s.toNat) (i + k)))) (h' := sD h I L) d_MS_word_36 cs_MS_word_36 (ks S (by omega)).1 (c_By_at (ks S (by omega)) (by rw [nks S (by omega)]; have := cb.1 s.toNat (by omega); omega) rfl) rfl rfl rfl ?_
      show AW l G M_MS_word P 39 [(5, vi k), (3, vl x), (2, vi i), (1, vi s), (0, vr 12)] [vi (byAt I (14 + 2 * s.toNat) (15 + 2 * s.toNat) (i + k)), vl (a_lshl x 8)] (sD h I L)
      refine aw_i2l d_MS_word_39 ?_
      refine aw_lor d_MS_word_40 ?_
      refine aw_lstore_n (lv' := [(3, vl (a_lor (a_lshl x 8) (byAt I (14 + 2 * s.toNat) (15 + 2 * s.toNat) (i + k)))), (5, vi k), (2, vi i), (1, vi s), (0, vr 12)]) d_MS_word_41 rfl (by decide) rfl ?_
      refine ax_iinc (lv' := [(5, vi (k + 1)), (3, vl (a_lor (a_lshl x 8) (byAt I (14 + 2 * s.toNat) (15 + 2 * s.toNat) (i + k)))), (2, vi i), (1, vi s), (0, vr 12)]) d_MS_word_42 rfl (by decide) ⟨(by omega), (by omega)⟩ rfl ?_
      refine aw_goto (tgt := 15) d_MS_word_45 (by decide) ?_
      exact ih_15 _ (by omega) (k + 1) (a_lor (a_lshl x 8) (byAt I (14 + 2 * s.toNat) (15 + 2 * s.toNat) (i + k))) (by omega) (by rw [hx, show (k + 1).toNat = k.toNat + 1 by omega]; show _ = a_lor _ (byAt I (14 + 2 * s.toNat) (15 + 2 * s.toNat) (i + (k.toNat : Int))); rw [Int.toNat_of_nonneg hk.1]) rfl
  refine aw_sub (lv' := [(5, vi 0), (3, vl 0), (2, vi i), (1, vi s), (0, vr 12)]) (by simp) ?_
  exact lp_15 _ 0 0 (by omega) (rfl) rfl
set_option maxHeartbeats 800000 in
set_option maxRecDepth 100000 in
theorem c_MS_same {l : Launch} {G : a_G} {h : Hp} {I L : Nat → Int → Int} {s u : Int} (S : Shp h) (hfl : l.flags = flags0) (rm : hX h + 1 ≤ a_NX ∧ hU h + 6 ≤ a_US) (cb : CB I) : AW l G M_MS_same (OpR h I L ceA (cTwo s u) (fun w => ∃ z : Int, w = vi z ∧ (z = 0 ∨ z = 1) ∧ (z = 1 ↔ I (14 + 2 * s.toNat) 1 = I (14 + 2 * u.toNat) 1 ∧ ∀ j, 0 ≤ j → j < I (14 + 2 * u.toNat) 1 → byAt I (14 + 2 * s.toNat) (15 + 2 * s.toNat) j = byAt I (14 + 2 * u.toNat) (15 + 2 * u.toNat) j)) (I)) 0 (a_ar 0 [vr 12, vi s, vi u]) [] (sD h I L) := by
  suffices key : ∀ P : a_R → Hp → Prop, (∀ r h2, OpR h I L ceA (cTwo s u) (fun w => ∃ z : Int, w = vi z ∧ (z = 0 ∨ z = 1) ∧ (z = 1 ↔ I (14 + 2 * s.toNat) 1 = I (14 + 2 * u.toNat) 1 ∧ ∀ j, 0 ≤ j → j < I (14 + 2 * u.toNat) 1 → byAt I (14 + 2 * s.toNat) (15 + 2 * s.toNat) j = byAt I (14 + 2 * u.toNat) (15 + 2 * u.toNat) j)) (I) r h2 → P r h2) → AW l G M_MS_same P 0 [(0, vr 12), (1, vi s), (2, vi u)] [] (sD h I L) from key _ (fun _ _ q => q)
  intro P hP
  refine aw_iload_n d_MS_same_0 rfl rfl ?_
  refine ax_Stn (st := []) (as := [vi s]) d_MS_same_1 cs_MS_same_1 (c_MS_needSlot hfl rm) rfl rfl rfl (fun ok_1 => ?_) (fun no_1 => at_leave rfl (hP _ _ (opNo 1 0 (by unfold cTwo; rw [if_neg (by omega)]) (by decide) rfl)))
  show AW l G M_MS_same P 4 [(0, vr 12), (1, vi s), (2, vi u)] [] (sD h I L)
  refine aw_iload_n d_MS_same_4 rfl rfl ?_
  refine ax_Stn (st := []) (as := [vi u]) d_MS_same_5 cs_MS_same_5 (c_MS_needSlot hfl rm) rfl rfl rfl (fun ok_5 => ?_) (fun no_5 => at_leave rfl (hP _ _ (opNo 1 0 (by unfold cTwo; rw [if_neg (by omega)]) (by decide) rfl)))
  show AW l G M_MS_same P 8 [(0, vr 12), (1, vi s), (2, vi u)] [] (sD h I L)
  refine aw_aload_n d_MS_same_8 rfl rfl ?_
  refine ax_getR (b := 13) d_MS_same_9 fd_MS_11 (k_12 S) (r_12_0 S) ?_
  refine aw_iload_n d_MS_same_12 rfl rfl ?_
  refine ax_aald (b := 14 + 2 * s.toNat) d_MS_same_13 ⟨by rw [(k_13 S)]; decide, by rw [(k_13 S)]; decide⟩ (by omega) (by rw [n_13 S]; omega) (g_13 S (by omega) (by omega)) ?_
  refine ax_getIe (x := I (14 + 2 * s.toNat) 1) d_MS_same_14 fd_MS_55 (ks S (by omega)).1 (rfl) ?_
  refine aw_aload_n d_MS_same_17 rfl rfl ?_
  refine ax_getR (b := 13) d_MS_same_18 fd_MS_11 (k_12 S) (r_12_0 S) ?_
  refine aw_iload_n d_MS_same_21 rfl rfl ?_
  refine ax_aald (b := 14 + 2 * u.toNat) d_MS_same_22 ⟨by rw [(k_13 S)]; decide, by rw [(k_13 S)]; decide⟩ (by omega) (by rw [n_13 S]; omega) (g_13 S (by omega) (by omega)) ?_
  refine ax_getIe (x := I (14 + 2 * u.toNat) 1) d_MS_same_23 fd_MS_55 (ks S (by omega)).1 (rfl) ?_
  refine aw_icmp_ne (tgt := 60) d_MS_same_26 (by decide) (fun c_26 => ?_) (fun c_26 => ?_)
  · skip
    refine aw_iconst d_MS_same_60 ⟨by decide, by decide⟩ ?_
    exact aw_zret d_MS_same_61 rfl ⟨by decide, by decide⟩ (hP _ _ (opOk _ ⟨_, rfl, Or.inl rfl, ⟨fun z => absurd z (by decide), fun z => absurd z.1 (by omega)⟩⟩ (by unfold cTwo; rw [if_pos (by omega)])))
  · skip
    refine aw_aload_n d_MS_same_29 rfl rfl ?_
    refine ax_getR (b := 13) d_MS_same_30 fd_MS_11 (k_12 S) (r_12_0 S) ?_
    refine aw_iload_n d_MS_same_33 rfl rfl ?_
    refine ax_aald (b := 14 + 2 * s.toNat) d_MS_same_34 ⟨by rw [(k_13 S)]; decide, by rw [(k_13 S)]; decide⟩ (by omega) (by rw [n_13 S]; omega) (g_13 S (by omega) (by omega)) ?_
    refine aw_aload_n d_MS_same_35 rfl rfl ?_
    refine ax_getR (b := 13) d_MS_same_36 fd_MS_11 (k_12 S) (r_12_0 S) ?_
    refine aw_iload_n d_MS_same_39 rfl rfl ?_
    refine ax_aald (b := 14 + 2 * u.toNat) d_MS_same_40 ⟨by rw [(k_13 S)]; decide, by rw [(k_13 S)]; decide⟩ (by omega) (by rw [n_13 S]; omega) (g_13 S (by omega) (by omega)) ?_
    refine aw_aload_n d_MS_same_41 rfl rfl ?_
    refine ax_getR (b := 13) d_MS_same_42 fd_MS_11 (k_12 S) (r_12_0 S) ?_
    refine aw_iload_n d_MS_same_45 rfl rfl ?_
    refine ax_aald (b := 14 + 2 * u.toNat) d_MS_same_46 ⟨by rw [(k_13 S)]; decide, by rw [(k_13 S)]; decide⟩ (by omega) (by rw [n_13 S]; omega) (g_13 S (by omega) (by omega)) ?_
    refine ax_getIe (x := I (14 + 2 * u.toNat) 1) d_MS_same_47 fd_MS_55 (ks S (by omega)).1 (rfl) ?_
    refine ax_Vr (st := []) (as := [vr (14 + 2 * u.toNat), vi (I (14 + 2 * u.toNat) 1)]) (b := 14 + 2 * s.toNat) d_MS_same_50 cs_MS_same_50 (ks S (by omega)).1 (c_By_matches (ks S (by omega)) (ks S (by omega)) (by rw [nks S (by omega), nks S (by omega)]; have := cb.1 s.toNat (by omega); have := cb.1 u.toNat (by omega); omega) (by have := cb.1 u.toNat (by omega); omega)) rfl rfl rfl (fun u_50 q_50 => ?_)
    obtain ⟨q1, q2⟩ := q_50
    show AW l G M_MS_same P 53 [(0, vr 12), (1, vi s), (2, vi u)] [vi u_50] (sD h I L)
    refine aw_if_eq (tgt := 60) d_MS_same_53 (by decide) (fun c_53 => ?_) (fun c_53 => ?_)
    · skip
      refine aw_iconst d_MS_same_60 ⟨by decide, by decide⟩ ?_
      exact aw_zret d_MS_same_61 rfl ⟨by decide, by decide⟩ (hP _ _ (opOk _ ⟨_, rfl, Or.inl rfl, ⟨fun z => absurd z (by decide), fun z => by have := q2.2 z.2; omega⟩⟩ (by unfold cTwo; rw [if_pos (by omega)])))
    · skip
      refine aw_iconst d_MS_same_56 ⟨by decide, by decide⟩ ?_
      refine aw_goto (tgt := 61) d_MS_same_57 (by decide) ?_
      exact aw_zret d_MS_same_61 rfl ⟨by decide, by decide⟩ (hP _ _ (opOk _ ⟨_, rfl, Or.inr rfl, ⟨fun _ => ⟨by omega, q2.1 (by omega)⟩, fun _ => rfl⟩⟩ (by unfold cTwo; rw [if_pos (by omega)])))
