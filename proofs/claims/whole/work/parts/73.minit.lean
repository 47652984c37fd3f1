/-! the reference's constructor -/
theorem Pt.shq {N : Int} {s t : Nat} {h : Hp} (E : Pt N 268 257 s t h) : Shq h := ⟨E.kk, E.nn, fun q hq => by
  obtain ⟨i, hi⟩ := List.mem_iff_getElem?.mp (tEv_in q hq)
  have hl : i < 257 := by
    have z := (List.getElem?_eq_some_iff.mp hi).1
    rwa [show tEv.length = 257 by decide +kernel] at z
  exact (E.ev i hl q hi).1, E.x⟩
theorem Pt.rel {N : Int} {k : Nat} {h : Hp} {J K : Nat → Int → Int} (E : Pt N 268 k 3 1 h) (q1 : GqI (hI h) J) (q2 : GqL (hL h) K) (q3 : RSt J K) : Rel J K := by
  have g : ∀ a j, a < 175 ∨ 175 < a ∧ a ≠ 193 ∧ a ≠ 199 → J a j = hI h a j := fun a j c => q1 a j (by omega) (by omega) (by omega)
  have z : ∀ a j, 12 ≤ a → a < 268 → ¬ (33 ≤ a ∧ a ≤ 35) → a ≠ 38 → a ≠ 43 → a ≠ 175 → a ≠ 193 → a ≠ 199 → J a j = 0 := fun a j c1 c2 c3 c4 c5 c6 c7 c8 => (g a j (by omega)).trans (E.zI a j c1 c2 c3 c4 c5)
  have z2 : ∀ p ∈ tPl, p.1 ≤ 35 := by decide +kernel
  refine ⟨⟨⟨fun a j c1 c2 => (g a j (by omega)).trans (E.st.1 a j c1 c2), fun j => (q2 8 j (by decide) (by decide) (by decide) (by decide) (by decide)).trans (E.st.2 j)⟩, fun q hq => ?_, ?_⟩, q3, fun s hs => ?_, ?_⟩
  · have y := z2 q hq
    exact (g _ _ (by omega)).trans (E.pd q hq (by omega))
  · funext j
    exact (g 43 j (by omega)).trans ((E.r43 rfl).1 j)
  · have e : J 186 s = 0 := z 186 s (by decide) (by decide) (by decide) (by decide) (by decide) (by decide) (by decide) (by decide)
    refine ⟨by omega, ?_, fun j a b => by omega, fun j => ?_⟩
    · rw [e]
      exact z _ _ (by omega) (by omega) (by omega) (by omega) (by omega) (by omega) (by omega) (by omega)
    · rw [z (178 + s) j (by omega) (by omega) (by omega) (by omega) (by omega) (by omega) (by omega) (by omega)]
      omega
  · have e : J 175 3 = 0 := (q1 175 3 (by decide) (by decide) (fun _ => by decide)).trans (E.zI 175 3 (by decide) (by decide) (by decide) (by decide) (by decide))
    refine ⟨by omega, ?_, fun j a b => by omega⟩
    rw [e]
    exact z 30 1 (by decide) (by decide) (by decide) (by decide) (by decide) (by decide) (by decide) (by decide)
set_option maxHeartbeats 4000000 in
set_option maxRecDepth 100000 in
theorem c_Mo_init {l : Launch} {G : a_G} {h : Hp} {N : Int} (E : Pt N 176 165 3 1 h) : AW l G M_Mo_init (Ret (fun _ : Hp × (Nat → Int → Int) × (Nat → Int → Int) => none) (fun u => sD u.1 u.2.1 u.2.2) (fun u => Shq u.1 ∧ Rel u.2.1 u.2.2 ∧ hN u.1 11 = N ∧ hU u.1 = tU 268)) 0 (a_ar 0 [vr 175]) [] h := by
  suffices key : ∀ P : a_R → Hp → Prop, (∀ (g : Hp) (J K : Nat → Int → Int), Shq g → Rel J K → hN g 11 = N → hU g = tU 268 → P (.inl none) (sD g J K)) → AW l G M_Mo_init P 0 [(0, vr 175)] [] h from key _ (fun g J K a b c d => ⟨(g, J, K), rfl, rfl, a, b, c, d⟩)
  intro P hP
  refine aw_aload_n d_Mo_init_0 rfl rfl ?_
  refine aw_objInit d_Mo_init_1 ml_Mo_1 (by decide) (by decide) ?_
  refine aw_aload_n d_Mo_init_4 rfl rfl ?_
  refine aw_sipush d_Mo_init_5 ⟨by decide, by decide⟩ (by decide) ?_
  refine pt_newa (n' := 177) (q := 2) E rfl d_Mo_init_8 (by decide) rfl ac_2 (by decide) (by decide) (by decide) (by decide +kernel) (by decide +kernel) (fun h E => ?_)
  refine pt_putR (k' := 166) E rfl d_Mo_init_10 fd_Mo_9 (by decide +kernel) (by decide) rfl rfl rfl (by decide +kernel) (fun h E => ?_)
  refine aw_aload_n d_Mo_init_13 rfl rfl ?_
  refine aw_bipush d_Mo_init_14 ⟨by decide, by decide⟩ (by decide) ?_
  refine aw_sipush d_Mo_init_16 ⟨by decide, by decide⟩ (by decide) ?_
  refine pt_mna (n' := 186) (k' := 174) (q := 6) (r := 2) E rfl rfl d_Mo_init_19 (by decide) nm_Mo_13 ao_2 ac_2 (by decide) (by decide) (by decide) (by decide +kernel) (by decide +kernel) (by decide +kernel) (by decide +kernel) (by decide +kernel) (fun h E => ?_)
  refine pt_putR (k' := 175) E rfl d_Mo_init_23 fd_Mo_15 (by decide +kernel) (by decide) rfl rfl rfl (by decide +kernel) (fun h E => ?_)
  refine aw_aload_n d_Mo_init_26 rfl rfl ?_
  refine aw_bipush d_Mo_init_27 ⟨by decide, by decide⟩ (by decide) ?_
  refine pt_newa (n' := 187) (q := 1) E rfl d_Mo_init_29 (by decide) rfl ac_1 (by decide) (by decide) (by decide) (by decide +kernel) (by decide +kernel) (fun h E => ?_)
  refine pt_putR (k' := 176) E rfl d_Mo_init_31 fd_Mo_18 (by decide +kernel) (by decide) rfl rfl rfl (by decide +kernel) (fun h E => ?_)
  refine aw_aload_n d_Mo_init_34 rfl rfl ?_
  refine aw_bipush d_Mo_init_35 ⟨by decide, by decide⟩ (by decide) ?_
  refine pt_newa (n' := 188) (q := 4) E rfl d_Mo_init_37 (by decide) rfl ac_4 (by decide) (by decide) (by decide) (by decide +kernel) (by decide +kernel) (fun h E => ?_)
  refine pt_putR (k' := 177) E rfl d_Mo_init_39 fd_Mo_22 (by decide +kernel) (by decide) rfl rfl rfl (by decide +kernel) (fun h E => ?_)
  refine aw_aload_n d_Mo_init_42 rfl rfl ?_
  refine aw_bipush d_Mo_init_43 ⟨by decide, by decide⟩ (by decide) ?_
  refine pt_newa (n' := 189) (q := 4) E rfl d_Mo_init_45 (by decide) rfl ac_4 (by decide) (by decide) (by decide) (by decide +kernel) (by decide +kernel) (fun h E => ?_)
  refine pt_putR (k' := 178) E rfl d_Mo_init_47 fd_Mo_26 (by decide +kernel) (by decide) rfl rfl rfl (by decide +kernel) (fun h E => ?_)
  refine aw_aload_n d_Mo_init_50 rfl rfl ?_
  refine aw_bipush d_Mo_init_51 ⟨by decide, by decide⟩ (by decide) ?_
  refine pt_newa (n' := 190) (q := 4) E rfl d_Mo_init_53 (by decide) rfl ac_4 (by decide) (by decide) (by decide) (by decide +kernel) (by decide +kernel) (fun h E => ?_)
  refine pt_putR (k' := 179) E rfl d_Mo_init_55 fd_Mo_29 (by decide +kernel) (by decide) rfl rfl rfl (by decide +kernel) (fun h E => ?_)
  refine aw_aload_n d_Mo_init_58 rfl rfl ?_
  refine aw_bipush d_Mo_init_59 ⟨by decide, by decide⟩ (by decide) ?_
  refine pt_newa (n' := 191) (q := 4) E rfl d_Mo_init_61 (by decide) rfl ac_4 (by decide) (by decide) (by decide) (by decide +kernel) (by decide +kernel) (fun h E => ?_)
  refine pt_putR (k' := 180) E rfl d_Mo_init_63 fd_Mo_32 (by decide +kernel) (by decide) rfl rfl rfl (by decide +kernel) (fun h E => ?_)
  refine aw_aload_n d_Mo_init_66 rfl rfl ?_
  refine aw_bipush d_Mo_init_67 ⟨by decide, by decide⟩ (by decide) ?_
  refine pt_newa (n' := 192) (q := 4) E rfl d_Mo_init_69 (by decide) rfl ac_4 (by decide) (by decide) (by decide) (by decide +kernel) (by decide +kernel) (fun h E => ?_)
  refine pt_putR (k' := 181) E rfl d_Mo_init_71 fd_Mo_35 (by decide +kernel) (by decide) rfl rfl rfl (by decide +kernel) (fun h E => ?_)
  refine aw_aload_n d_Mo_init_74 rfl rfl ?_
  refine aw_bipush d_Mo_init_75 ⟨by decide, by decide⟩ (by decide) ?_
  refine pt_newa (n' := 193) (q := 4) E rfl d_Mo_init_77 (by decide) rfl ac_4 (by decide) (by decide) (by decide) (by decide +kernel) (by decide +kernel) (fun h E => ?_)
  refine pt_putR (k' := 182) E rfl d_Mo_init_79 fd_Mo_38 (by decide +kernel) (by decide) rfl rfl rfl (by decide +kernel) (fun h E => ?_)
  refine aw_aload_n d_Mo_init_82 rfl rfl ?_
  refine aw_bipush d_Mo_init_83 ⟨by decide, by decide⟩ (by decide) ?_
  refine pt_newa (n' := 194) (q := 1) E rfl d_Mo_init_85 (by decide) rfl ac_1 (by decide) (by decide) (by decide) (by decide +kernel) (by decide +kernel) (fun h E => ?_)
  refine pt_putR (k' := 183) E rfl d_Mo_init_87 fd_Mo_41 (by decide +kernel) (by decide) rfl rfl rfl (by decide +kernel) (fun h E => ?_)
  refine aw_aload_n d_Mo_init_90 rfl rfl ?_
  refine aw_bipush d_Mo_init_91 ⟨by decide, by decide⟩ (by decide) ?_
  refine pt_newa (n' := 195) (q := 4) E rfl d_Mo_init_93 (by decide) rfl ac_4 (by decide) (by decide) (by decide) (by decide +kernel) (by decide +kernel) (fun h E => ?_)
  refine pt_putR (k' := 184) E rfl d_Mo_init_95 fd_Mo_44 (by decide +kernel) (by decide) rfl rfl rfl (by decide +kernel) (fun h E => ?_)
  refine aw_aload_n d_Mo_init_98 rfl rfl ?_
  refine aw_bipush d_Mo_init_99 ⟨by decide, by decide⟩ (by decide) ?_
  refine pt_newa (n' := 196) (q := 4) E rfl d_Mo_init_101 (by decide) rfl ac_4 (by decide) (by decide) (by decide) (by decide +kernel) (by decide +kernel) (fun h E => ?_)
  refine pt_putR (k' := 185) E rfl d_Mo_init_103 fd_Mo_47 (by decide +kernel) (by decide) rfl rfl rfl (by decide +kernel) (fun h E => ?_)
  refine aw_aload_n d_Mo_init_106 rfl rfl ?_
  refine aw_bipush d_Mo_init_107 ⟨by decide, by decide⟩ (by decide) ?_
  refine pt_newa (n' := 197) (q := 4) E rfl d_Mo_init_109 (by decide) rfl ac_4 (by decide) (by decide) (by decide) (by decide +kernel) (by decide +kernel) (fun h E => ?_)
  refine pt_putR (k' := 186) E rfl d_Mo_init_111 fd_Mo_50 (by decide +kernel) (by decide) rfl rfl rfl (by decide +kernel) (fun h E => ?_)
  refine aw_aload_n d_Mo_init_114 rfl rfl ?_
  refine aw_iconst d_Mo_init_115 ⟨by decide, by decide⟩ ?_
  refine pt_newa (n' := 198) (q := 4) E rfl d_Mo_init_116 (by decide) rfl ac_4 (by decide) (by decide) (by decide) (by decide +kernel) (by decide +kernel) (fun h E => ?_)
  refine pt_putR (k' := 187) E rfl d_Mo_init_118 fd_Mo_53 (by decide +kernel) (by decide) rfl rfl rfl (by decide +kernel) (fun h E => ?_)
  refine aw_aload_n d_Mo_init_121 rfl rfl ?_
  refine aw_bipush d_Mo_init_122 ⟨by decide, by decide⟩ (by decide) ?_
  refine pt_newa (n' := 199) (q := 4) E rfl d_Mo_init_124 (by decide) rfl ac_4 (by decide) (by decide) (by decide) (by decide +kernel) (by decide +kernel) (fun h E => ?_)
  refine pt_putR (k' := 188) E rfl d_Mo_init_126 fd_Mo_56 (by decide +kernel) (by decide) rfl rfl rfl (by decide +kernel) (fun h E => ?_)
  refine aw_aload_n d_Mo_init_129 rfl rfl ?_
  refine aw_sipush d_Mo_init_130 ⟨by decide, by decide⟩ (by decide) ?_
  refine pt_newa (n' := 200) (q := 2) E rfl d_Mo_init_133 (by decide) rfl ac_2 (by decide) (by decide) (by decide) (by decide +kernel) (by decide +kernel) (fun h E => ?_)
  refine pt_putR (k' := 189) E rfl d_Mo_init_135 fd_Mo_59 (by decide +kernel) (by decide) rfl rfl rfl (by decide +kernel) (fun h E => ?_)
  refine aw_aload_n d_Mo_init_138 rfl rfl ?_
  refine aw_bipush d_Mo_init_139 ⟨by decide, by decide⟩ (by decide) ?_
  refine pt_newa (n' := 201) (q := 2) E rfl d_Mo_init_141 (by decide) rfl ac_2 (by decide) (by decide) (by decide) (by decide +kernel) (by decide +kernel) (fun h E => ?_)
  refine pt_putR (k' := 190) E rfl d_Mo_init_143 fd_Mo_62 (by decide +kernel) (by decide) rfl rfl rfl (by decide +kernel) (fun h E => ?_)
  refine aw_aload_n d_Mo_init_146 rfl rfl ?_
  refine aw_sipush d_Mo_init_147 ⟨by decide, by decide⟩ (by decide) ?_
  refine pt_newa (n' := 202) (q := 4) E rfl d_Mo_init_150 (by decide) rfl ac_4 (by decide) (by decide) (by decide) (by decide +kernel) (by decide +kernel) (fun h E => ?_)
  refine pt_putR (k' := 191) E rfl d_Mo_init_152 fd_Mo_65 (by decide +kernel) (by decide) rfl rfl rfl (by decide +kernel) (fun h E => ?_)
  refine aw_aload_n d_Mo_init_155 rfl rfl ?_
  refine aw_sipush d_Mo_init_156 ⟨by decide, by decide⟩ (by decide) ?_
  refine pt_newa (n' := 203) (q := 2) E rfl d_Mo_init_159 (by decide) rfl ac_2 (by decide) (by decide) (by decide) (by decide +kernel) (by decide +kernel) (fun h E => ?_)
  refine pt_putR (k' := 192) E rfl d_Mo_init_161 fd_Mo_68 (by decide +kernel) (by decide) rfl rfl rfl (by decide +kernel) (fun h E => ?_)
  refine aw_aload_n d_Mo_init_164 rfl rfl ?_
  refine aw_sipush d_Mo_init_165 ⟨by decide, by decide⟩ (by decide) ?_
  refine pt_newa (n' := 204) (q := 1) E rfl d_Mo_init_168 (by decide) rfl ac_1 (by decide) (by decide) (by decide) (by decide +kernel) (by decide +kernel) (fun h E => ?_)
  refine pt_putR (k' := 193) E rfl d_Mo_init_170 fd_Mo_71 (by decide +kernel) (by decide) rfl rfl rfl (by decide +kernel) (fun h E => ?_)
  refine aw_aload_n d_Mo_init_173 rfl rfl ?_
  refine aw_bipush d_Mo_init_174 ⟨by decide, by decide⟩ (by decide) ?_
  refine aw_sipush d_Mo_init_176 ⟨by decide, by decide⟩ (by decide) ?_
  refine pt_mna (n' := 253) (k' := 241) (q := 5) (r := 1) E rfl rfl d_Mo_init_179 (by decide) nm_Mo_74 ao_1 ac_1 (by decide) (by decide) (by decide) (by decide +kernel) (by decide +kernel) (by decide +kernel) (by decide +kernel) (by decide +kernel) (fun h E => ?_)
  refine pt_putR (k' := 242) E rfl d_Mo_init_183 fd_Mo_76 (by decide +kernel) (by decide) rfl rfl rfl (by decide +kernel) (fun h E => ?_)
  refine aw_aload_n d_Mo_init_186 rfl rfl ?_
  refine aw_bipush d_Mo_init_187 ⟨by decide, by decide⟩ (by decide) ?_
  refine aw_sipush d_Mo_init_189 ⟨by decide, by decide⟩ (by decide) ?_
  refine pt_mna (n' := 262) (k' := 250) (q := 7) (r := 3) E rfl rfl d_Mo_init_192 (by decide) nm_Mo_79 ao_3 ac_3 (by decide) (by decide) (by decide) (by decide +kernel) (by decide +kernel) (by decide +kernel) (by decide +kernel) (by decide +kernel) (fun h E => ?_)
  refine pt_putR (k' := 251) E rfl d_Mo_init_196 fd_Mo_81 (by decide +kernel) (by decide) rfl rfl rfl (by decide +kernel) (fun h E => ?_)
  refine aw_aload_n d_Mo_init_199 rfl rfl ?_
  refine aw_sipush d_Mo_init_200 ⟨by decide, by decide⟩ (by decide) ?_
  refine pt_newa (n' := 263) (q := 2) E rfl d_Mo_init_203 (by decide) rfl ac_2 (by decide) (by decide) (by decide) (by decide +kernel) (by decide +kernel) (fun h E => ?_)
  refine pt_putR (k' := 252) E rfl d_Mo_init_205 fd_Mo_84 (by decide +kernel) (by decide) rfl rfl rfl (by decide +kernel) (fun h E => ?_)
  refine aw_aload_n d_Mo_init_208 rfl rfl ?_
  refine aw_sipush d_Mo_init_209 ⟨by decide, by decide⟩ (by decide) ?_
  refine pt_newa (n' := 264) (q := 2) E rfl d_Mo_init_212 (by decide) rfl ac_2 (by decide) (by decide) (by decide) (by decide +kernel) (by decide +kernel) (fun h E => ?_)
  refine pt_putR (k' := 253) E rfl d_Mo_init_214 fd_Mo_87 (by decide +kernel) (by decide) rfl rfl rfl (by decide +kernel) (fun h E => ?_)
  refine aw_aload_n d_Mo_init_217 rfl rfl ?_
  refine aw_bipush d_Mo_init_218 ⟨by decide, by decide⟩ (by decide) ?_
  refine pt_newa (n' := 265) (q := 2) E rfl d_Mo_init_220 (by decide) rfl ac_2 (by decide) (by decide) (by decide) (by decide +kernel) (by decide +kernel) (fun h E => ?_)
  refine pt_putR (k' := 254) E rfl d_Mo_init_222 fd_Mo_90 (by decide +kernel) (by decide) rfl rfl rfl (by decide +kernel) (fun h E => ?_)
  refine aw_aload_n d_Mo_init_225 rfl rfl ?_
  refine aw_bipush d_Mo_init_226 ⟨by decide, by decide⟩ (by decide) ?_
  refine pt_newa (n' := 266) (q := 2) E rfl d_Mo_init_228 (by decide) rfl ac_2 (by decide) (by decide) (by decide) (by decide +kernel) (by decide +kernel) (fun h E => ?_)
  refine pt_putR (k' := 255) E rfl d_Mo_init_230 fd_Mo_93 (by decide +kernel) (by decide) rfl rfl rfl (by decide +kernel) (fun h E => ?_)
  refine aw_aload_n d_Mo_init_233 rfl rfl ?_
  refine aw_bipush d_Mo_init_234 ⟨by decide, by decide⟩ (by decide) ?_
  refine pt_newa (n' := 267) (q := 2) E rfl d_Mo_init_236 (by decide) rfl ac_2 (by decide) (by decide) (by decide) (by decide +kernel) (by decide +kernel) (fun h E => ?_)
  refine pt_putR (k' := 256) E rfl d_Mo_init_238 fd_Mo_96 (by decide +kernel) (by decide) rfl rfl rfl (by decide +kernel) (fun h E => ?_)
  refine aw_aload_n d_Mo_init_241 rfl rfl ?_
  refine aw_bipush d_Mo_init_242 ⟨by decide, by decide⟩ (by decide) ?_
  refine pt_newa (n' := 268) (q := 2) E rfl d_Mo_init_244 (by decide) rfl ac_2 (by decide) (by decide) (by decide) (by decide +kernel) (by decide +kernel) (fun h E => ?_)
  refine pt_putR (k' := 257) E rfl d_Mo_init_246 fd_Mo_99 (by decide +kernel) (by decide) rfl rfl rfl (by decide +kernel) (fun h E => ?_)
  refine aw_aload_n d_Mo_init_249 rfl rfl ?_
  have S : Shq h := Pt.shq E
  have O := E
  show AW l G M_Mo_init P 250 [(0, vr 175)] [vr 175] (sD h (hI h) (hL h))
  refine ax_Vr (st := []) (as := []) (b := 175) d_Mo_init_250 cs_Mo_init_250 (kq_175 S) (c_Mo_constants S (fun j => O.zI 193 j (by decide) (by decide) (by decide) (by decide) (by decide)) (fun j => O.zL 194 j (by decide) (by decide))) rfl rfl rfl (fun u q => ?_)
  obtain ⟨J, K⟩ := u
  obtain ⟨q1, q2, q3⟩ := q
  dsimp only at q1 q2 q3
  show AW l G M_Mo_init P 253 [(0, vr 175)] [] (sD h J K)
  exact aw_vret d_Mo_init_253 rfl (hP h J K S (Pt.rel O q1 q2 q3) O.n11 O.u)
