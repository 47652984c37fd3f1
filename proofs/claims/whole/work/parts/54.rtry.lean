/-! the reference's attempt -/
theorem blIt_b {V tau : Int} {r0 : BlS} (h0 : ∀ j, -1 ≤ r0.2.2 j ∧ r0.2.2 j ≤ 1) : ∀ (k : Nat) (r : BlS), blIt V tau r0 k = some r → ∀ j, -1 ≤ r.2.2 j ∧ r.2.2 j ≤ 1
  | 0, r, h => by
    have e : some r0 = some r := h
    cases e
    exact h0
  | k + 1, r, h => by
    have h1 : (blIt V tau r0 k).bind (blStep V (256 - tau + k) k) = some r := h
    cases e : blIt V tau r0 k with
    | none =>
      rw [e] at h1
      cases h1
    | some r1 =>
      rw [e] at h1
      have ih := blIt_b h0 k r1 e
      have h2 : blStep V (256 - tau + k) k r1 = some r := h1
      unfold blStep at h2
      split at h2
      · cases h2
        intro j
        dsimp only
        split
        · unfold sgnB
          split <;> omega
        · split
          · exact ih _
          · exact ih _
      · cases h2
theorem blX_b {tau : Int} {s : Sp} (j : Int) : -1 ≤ blX tau s j ∧ blX tau s j ≤ 1 := by
  unfold blX
  cases e : bll tau s with
  | none => exact ⟨by show (-1 : Int) ≤ 0; decide, by show (0 : Int) ≤ 1; decide⟩
  | some r => exact blIt_b (fun _ => ⟨by show (-1 : Int) ≤ 0; decide, by show (0 : Int) ≤ 1; decide⟩) _ r e j
theorem fwT_eq {B B' F F' : Int → Int} (h1 : eqQ B B') (h2 : eqQ F F') {k i : Int} (k0 : 0 ≤ k) (k1 : k < 256) (i0 : 0 ≤ i) (i1 : i < 256) : fwT B F k i = fwT B' F' k i := by
  unfold fwT
  rw [h1 i i0 i1]
  split
  · rw [h2 (k - i) (by omega) (by omega)]
  · rw [h2 (k - i + 256) (by omega) (by omega)]
theorem fwS_eq {B B' F F' : Int → Int} (h1 : eqQ B B') (h2 : eqQ F F') {k : Int} (k0 : 0 ≤ k) (k1 : k < 256) : ∀ n : Nat, n ≤ 256 → fwS B F k n = fwS B' F' k n
  | 0, _ => rfl
  | n + 1, hn => by
    show fwS B F k n + fwT B F k n = fwS B' F' k n + fwT B' F' k n
    rw [fwS_eq h1 h2 k0 k1 n (by omega), fwT_eq h1 h2 k0 k1 (by omega) (by omega)]
theorem few_prB {B B' F F' : Int → Int} (h1 : eqQ B B') (h2 : eqQ F F') : eqQ (few B F) (fun j => cen (prB (fwd rt (fun k => B' k % 8380417)) (fwd rt (fun k => F' k % 8380417)) j)) := fun j x y => by
  show few B F j = cen (prB (fwd rt (fun k => B' k % 8380417)) (fwd rt (fun k => F' k % 8380417)) j)
  unfold few prB
  rw [prod_few (B := B') (F := F') (fun k _ => cq.m _) (fun k _ => cq.m _) x y, fwS_eq h1 h2 x y 256 (Nat.le_refl _)]
def sgSs (s : Int) (sk : Int → Int) (m j : Int) : Int := pE s - gR (fun k => sk (128 + 32 * (sB s : Int) * m + k)) (sB s) j
def sgDs (s : Int) (sk : Int → Int) (m j : Int) : Int := 4096 - gR (fun k => sk (128 + 32 * (sB s : Int) * (pK s + pL s) + 416 * m + k)) 13 j
def sgMs (s : Int) (rh : Int → Int) (n j : Int) : Int := pG1 s - gR (spOut (nmS rh n)) (pB s).toNat j
theorem gR_p {g : Int → Int} {w : Nat} {j : Int} : 0 ≤ gR g w j ∧ gR g w j < 2 ^ w := ⟨Int.emod_nonneg _ (Int.ne_of_gt (p2pos w)), Int.emod_lt_of_pos _ (p2pos w)⟩
theorem sgSs_b {s : Int} {sk : Int → Int} {m j : Int} : -20 ≤ sgSs s sk m j ∧ sgSs s sk m j ≤ 4 := by
  have h := gR_p (g := fun k => sk (128 + 32 * (sB s : Int) * m + k)) (w := sB s) (j := j)
  have h2 : (2 : Int) ^ sB s ≤ 16 := by unfold sB; split <;> decide
  have h3 := pE_or s
  unfold sgSs
  omega
theorem sgDs_b {s : Int} {sk : Int → Int} {m j : Int} : -8192 ≤ sgDs s sk m j ∧ sgDs s sk m j ≤ 4096 := by
  have h := gR_p (g := fun k => sk (128 + 32 * (sB s : Int) * (pK s + pL s) + 416 * m + k)) (w := 13) (j := j)
  rw [show (2 ^ 13 : Int) = 8192 by decide] at h
  unfold sgDs
  omega
theorem sgMs_b {s : Int} {rh : Int → Int} {n j : Int} : pG1 s - 2 ^ (pB s).toNat < sgMs s rh n j ∧ sgMs s rh n j ≤ pG1 s := by
  have h := gR_p (g := spOut (nmS rh n)) (w := (pB s).toNat) (j := j)
  unfold sgMs
  omega
def RaR (h : Hp) (K M : Nat → Int → Int) (q : Nat → Prop) (ok gd : Prop) (n : Int) (pk : Int → Int) : a_R → Hp → Prop := fun r h2 => ∃ v I' L', r = .inl (some (vi v)) ∧ h2 = sD h I' L' ∧ FR q K M I' L' ∧ ((v = -1 ∧ ¬ ok) ∨ (v = 0 ∧ ok ∧ ¬ gd) ∨ (v = 1 ∧ ok ∧ gd ∧ HR I' 263 0 n pk))
abbrev pAt : Nat → Prop := fun a => a = 200 ∨ 228 ≤ a ∧ a ≤ 252 ∨ 254 ≤ a ∧ a ≤ 263 ∨ a = 267
theorem HR.cut {I : Nat → Int → Int} {r : Nat} {o n m : Int} {g : Int → Int} (h : HR I r o n g) (hm : m ≤ n) : HR I r o m g := fun k x y => h k x (by omega)
theorem hIt_in {fl : Nat → Bool} : ∀ n x, 0 ≤ (hIt fl n).2 x ∧ (hIt fl n).2 x < 256
  | 0, _ => ⟨by show (0 : Int) ≤ 0; decide, by show (0 : Int) < 256; decide⟩
  | n + 1, x => by
    by_cases c : fl n = true
    · rw [hIt_y c]
      show 0 ≤ (if x = (hIt fl n).1 then ((n % 256 : Nat) : Int) else (hIt fl n).2 x) ∧ (if x = (hIt fl n).1 then ((n % 256 : Nat) : Int) else (hIt fl n).2 x) < 256
      split
      · omega
      · exact hIt_in n x
    · rw [hIt_n c]; exact hIt_in n x
set_option maxHeartbeats 4000000 in
set_option maxRecDepth 100000 in
theorem aF0 {l : Launch} {G : a_G} {P : a_R → Hp → Prop} {h : Hp} {K0 M0 K M : Nat → Int → Int} {sk rh mu : Int → Int} {t : Int} (S : Shp h) (D0 : RD K0 M0 0) (hk0 : HR K0 180 0 2560 sk) (km : ∀ x, sk x % 256 = sk x) (hr0 : HR K0 266 0 64 rh) (rm0 : ∀ x, rh x % 256 = rh x) (hm0 : HR K0 265 0 64 mu) (mm0 : ∀ x, mu x % 256 = mu x) (hS0 : ∀ m, 0 ≤ m → m < 8 → eqQ (K0 (205 + m.toNat)) (sgSs 0 sk m)) (hD0 : ∀ m, 0 ≤ m → m < 4 → eqQ (K0 (205 + (15 + m).toNat)) (sgDs 0 sk m)) (ht : 0 ≤ t ∧ t < 814) (F0 : FR pAt K0 M0 K M) (okk : (sgOk 0 sk ∧ bll 39 (sgBs 0 sk rh mu t) ≠ none)) (gd : (sgGood 0 sk rh mu t)) (hch : HR K 267 0 32 (sgC 0 sk rh mu t)) (hz : ∀ m, 0 ≤ m → m < 4 → ∀ j, 0 ≤ j → j < 256 → 131072 - K (205 + (23 + m).toNat) j = (131072 - (sgZ 0 sk rh mu t) m j) % 8380417) (hh : ∀ m : Int, 0 ≤ m → m < 4 → ∀ j : Int, 0 ≤ j → j < 256 → K (254 + m.toNat) j = (if (sgF 0 sk rh mu t) (256 * m.toNat + j.toNat) = true then 1 else 0)) (hP : ∀ r_ h2_, RaR h K0 M0 pAt (sgOk 0 sk ∧ bll 39 (sgBs 0 sk rh mu t) ≠ none) (sgGood 0 sk rh mu t) 2420 (sgPk 0 sk rh mu t) r_ h2_ → P r_ h2_) : AW l G M_Mo_attempt P 803 [(0, vr 175)] [] (sD h K M) := by
  have D := D0.fr F0 (by decide)
  have gw : (hIt (sgF 0 sk rh mu t) 1024).1 ≤ 80 := gd.2.2.2
  refine aw_aload_n d_Mo_attempt_803 rfl rfl ?_
  refine ax_getR (b := 267) d_Mo_attempt_804 fd_Mo_99 (k_175 S) (r_175_43 S) ?_
  refine aw_iconst d_Mo_attempt_807 ⟨by decide, by decide⟩ ?_
  refine aw_aload_n d_Mo_attempt_808 rfl rfl ?_
  refine ax_getR (b := 263) d_Mo_attempt_809 fd_Mo_87 (k_175 S) (r_175_31 S) ?_
  refine aw_iconst d_Mo_attempt_812 ⟨by decide, by decide⟩ ?_
  refine aw_aload_n d_Mo_attempt_813 rfl rfl ?_
  refine ax_getIe (x := 32) d_Mo_attempt_814 fd_Mo_248 (k_175 S) (dr0_38 D) ?_
  refine ax_S (st := []) (as := [vr 267, vi 0, vr 263, vi 0, vi 32]) (v := none) (h' := sD h (putRow K 263 0 32 (fun k => K 267 (0 + k))) M) d_Mo_attempt_817 cs_Mo_attempt_817 (c_Mo_move ⟨k_267 S, by decide⟩ ⟨k_263 S, by decide, trivial⟩ (by decide) (by rw [n_267 S, n_263 S]; omega)) rfl rfl rfl ?_
  show AW l G M_Mo_attempt P 820 [(0, vr 175)] [] (sD h (putRow K 263 0 32 (fun k => K 267 (0 + k))) M)
  refine aw_aload_n d_Mo_attempt_820 rfl rfl ?_
  refine aw_iconst d_Mo_attempt_821 ⟨by decide, by decide⟩ ?_
  refine ax_putI d_Mo_attempt_822 fd_Mo_216 (k_175 S) (by decide) rfl ?_
  refine aw_iconst d_Mo_attempt_825 ⟨by decide, by decide⟩ ?_
  refine aw_istore (lv' := [(5, vi 0), (0, vr 175)]) d_Mo_attempt_826 (by decide) rfl ?_
  have lp_828 : ∀ (n_ : Nat) (i : Int) (K2 : Nat → Int → Int), (0 ≤ i ∧ i ≤ 4) → (FR (fun a => a = 263) K M K2 M) → (K2 175 23 = 8 * (576 * i)) → (HR K2 263 0 (32 + 576 * i) (sgPk 0 sk rh mu t)) → ((4 - i).toNat) = n_ → AW l G M_Mo_attempt P 828 [(5, vi i), (0, vr 175)] [] (sD h K2 M) := by
    intro n_
    induction n_ using Nat.strongRecOn with
    | _ n_ ih_828 =>
    intro i K2 hi F2 b2 h2 hm_828
    refine aw_iload d_Mo_attempt_828 rfl ?_
    refine aw_aload_n d_Mo_attempt_830 rfl rfl ?_
    refine ax_getIe (x := 4) d_Mo_attempt_831 fd_Mo_226 (k_175 S) (Eq.trans (F2.1 175 32 (by omega) (Or.inr (by decide))) (dr0_32 D)) ?_
    refine aw_icmp_ge (tgt := 873) d_Mo_attempt_834 (by decide) (fun c_834 => ?_) (fun c_834 => ?_)
    · skip
      refine aw_aload_n d_Mo_attempt_873 rfl rfl ?_
      refine ax_getIe (x := 32) d_Mo_attempt_874 fd_Mo_248 (k_175 S) (Eq.trans (F2.1 175 38 (by omega) (Or.inr (by decide))) (dr0_38 D)) ?_
      refine aw_bipush d_Mo_attempt_877 ⟨by decide, by decide⟩ (by decide) ?_
      refine aw_aload_n d_Mo_attempt_879 rfl rfl ?_
      refine ax_getIe (x := 4) d_Mo_attempt_880 fd_Mo_226 (k_175 S) (Eq.trans (F2.1 175 32 (by omega) (Or.inr (by decide))) (dr0_32 D)) ?_
      refine ax_imul d_Mo_attempt_883 ⟨(by omega), (by omega)⟩ ?_
      refine ax_ti (x := 128) (by decide) ?_
      refine aw_aload_n d_Mo_attempt_884 rfl rfl ?_
      refine ax_getIe (x := 18) d_Mo_attempt_885 fd_Mo_251 (k_175 S) (Eq.trans (F2.1 175 39 (by omega) (Or.inr (by decide))) (dr0_39 D)) ?_
      refine ax_imul d_Mo_attempt_888 ⟨(by omega), (by omega)⟩ ?_
      refine ax_ti (x := 2304) (by decide) ?_
      refine ax_iadd d_Mo_attempt_889 ⟨(by omega), (by omega)⟩ ?_
      refine ax_ti (x := 2336) (by decide) ?_
      refine aw_istore (lv' := [(5, vi 2336), (0, vr 175)]) d_Mo_attempt_890 (by decide) rfl ?_
      refine aw_iconst d_Mo_attempt_892 ⟨by decide, by decide⟩ ?_
      refine aw_istore (lv' := [(6, vi 0), (5, vi 2336), (0, vr 175)]) d_Mo_attempt_893 (by decide) rfl ?_
      refine aw_iconst d_Mo_attempt_895 ⟨by decide, by decide⟩ ?_
      refine aw_istore (lv' := [(7, vi 0), (6, vi 0), (5, vi 2336), (0, vr 175)]) d_Mo_attempt_896 (by decide) rfl ?_
      have lp_898 : ∀ (n_ : Nat) (i : Int) (K3 : Nat → Int → Int), (0 ≤ i ∧ i ≤ 80) → (FR (fun a => a = 263) K M K3 M) → (HR K3 263 0 2336 (sgPk 0 sk rh mu t)) → (∀ x, 0 ≤ x → x < i → K3 263 (2336 + x) = 0) → ((80 - i).toNat) = n_ → AW l G M_Mo_attempt P 898 [(7, vi i), (6, vi 0), (5, vi 2336), (0, vr 175)] [] (sD h K3 M) := by
        intro n_
        induction n_ using Nat.strongRecOn with
        | _ n_ ih_898 =>
        intro i K3 hi3 F3 h3 z3 hm_898
        refine aw_iload d_Mo_attempt_898 rfl ?_
        refine aw_aload_n d_Mo_attempt_900 rfl rfl ?_
        refine ax_getIe (x := 80) d_Mo_attempt_901 fd_Mo_245 (k_175 S) (Eq.trans (F3.1 175 37 (by omega) (Or.inr (by decide))) (dr0_37 D)) ?_
        refine aw_icmp_ge (tgt := 924) d_Mo_attempt_904 (by decide) (fun c_904 => ?_) (fun c_904 => ?_)
        · skip
          refine aw_iconst d_Mo_attempt_924 ⟨by decide, by decide⟩ ?_
          refine aw_istore (lv' := [(7, vi 0), (6, vi 0), (5, vi 2336), (0, vr 175)]) d_Mo_attempt_925 (by decide) rfl ?_
          have lp_927 : ∀ (n_ : Nat) (i : Int) (nn : Int) (K4 : Nat → Int → Int), (0 ≤ i ∧ i ≤ 4) → (FR (fun a => a = 263) K M K4 M) → (HR K4 263 0 2336 (sgPk 0 sk rh mu t)) → (nn = (hIt (sgF 0 sk rh mu t) (256 * i.toNat + (0 : Int).toNat)).1) → ((∀ x, 0 ≤ x → x < nn → K4 263 (2336 + x) % 256 = (hIt (sgF 0 sk rh mu t) (256 * i.toNat + (0 : Int).toNat)).2 x) ∧ (∀ x, nn ≤ x → x < 80 → K4 263 (2336 + x) = 0)) → (∀ m, 0 ≤ m → m < i → K4 263 (2416 + m) % 256 = (hIt (sgF 0 sk rh mu t) (256 * m.toNat + 256)).1) → ((4 - i).toNat) = n_ → AW l G M_Mo_attempt P 927 [(7, vi i), (6, vi nn), (5, vi 2336), (0, vr 175)] [] (sD h K4 M) := by
            intro n_
            induction n_ using Nat.strongRecOn with
            | _ n_ ih_927 =>
            intro i nn K4 hi4 F4 h4 e4 z4 n4 hm_927
            refine aw_iload d_Mo_attempt_927 rfl ?_
            refine aw_aload_n d_Mo_attempt_929 rfl rfl ?_
            refine ax_getIe (x := 4) d_Mo_attempt_930 fd_Mo_223 (k_175 S) (Eq.trans (F4.1 175 26 (by omega) (Or.inr (by decide))) (dr0_26 D)) ?_
            refine aw_icmp_ge (tgt := 1006) d_Mo_attempt_933 (by decide) (fun c_933 => ?_) (fun c_933 => ?_)
            · skip
              refine aw_iconst d_Mo_attempt_1006 ⟨by decide, by decide⟩ ?_
              exact aw_iret d_Mo_attempt_1007 rfl (hP _ _ ⟨_, K4, M, rfl, rfl, F0.tr F4 (by intro a x; exact ⟨x, by have x2 := x; show ¬ a = 263; intro z; exact x (by omega)⟩), Or.inr (Or.inr ⟨rfl, okk, gd, fun z x y => by by_cases v1 : z < 2336; exact h4 z x v1; rw [show sgPk 0 sk rh mu t z = pcB0 (sgC 0 sk rh mu t) (sgZ 0 sk rh mu t) (sgF 0 sk rh mu t) z from rfl]; unfold pcB0; rw [if_neg (by omega), if_neg (by omega)]; by_cases v2 : z < 2416; exact (by rw [if_pos v2]; have eC : (hIt (sgF 0 sk rh mu t) (256 * i.toNat + (0 : Int).toNat)) = hIt (sgF 0 sk rh mu t) 1024 := (by rw [show 256 * i.toNat + (0 : Int).toNat = 1024 by omega]); rw [eC] at z4 e4; by_cases v3 : z - 2336 < (hIt (sgF 0 sk rh mu t) 1024).1; exact (by rw [if_pos v3]; have q_ := z4.1 (z - 2336) (by omega) (by omega); rwa [show (2336 + (z - 2336) : Int) = 0 + z by omega] at q_); exact (by rw [if_neg v3]; have q_ := z4.2 (z - 2336) (by omega) (by omega); rw [show (2336 + (z - 2336) : Int) = 0 + z by omega] at q_; rw [q_]; rfl)); exact (by rw [if_neg v2]; have q_ := n4 (z - 2416) (by omega) (by omega); rwa [show (2416 + (z - 2416) : Int) = 0 + z by omega] at q_)⟩)⟩)
            · skip
              refine aw_iconst d_Mo_attempt_936 ⟨by decide, by decide⟩ ?_
              refine aw_istore (lv' := [(8, vi 0), (7, vi i), (6, vi nn), (5, vi 2336), (0, vr 175)]) d_Mo_attempt_937 (by decide) rfl ?_
              have lp_939 : ∀ (n_ : Nat) (c : Int) (nn : Int) (K5 : Nat → Int → Int), (0 ≤ c ∧ c ≤ 256) → (FR (fun a => a = 263) K M K5 M) → (HR K5 263 0 2336 (sgPk 0 sk rh mu t)) → (nn = (hIt (sgF 0 sk rh mu t) (256 * i.toNat + c.toNat)).1) → ((∀ x, 0 ≤ x → x < nn → K5 263 (2336 + x) % 256 = (hIt (sgF 0 sk rh mu t) (256 * i.toNat + c.toNat)).2 x) ∧ (∀ x, nn ≤ x → x < 80 → K5 263 (2336 + x) = 0)) → (∀ m, 0 ≤ m → m < i → K5 263 (2416 + m) % 256 = (hIt (sgF 0 sk rh mu t) (256 * m.toNat + 256)).1) → ((256 - c).toNat) = n_ → AW l G M_Mo_attempt P 939 [(8, vi c), (7, vi i), (6, vi nn), (5, vi 2336), (0, vr 175)] [] (sD h K5 M) := by
                intro n_
                induction n_ using Nat.strongRecOn with
                | _ n_ ih_939 =>
                intro c nn K5 hc F5 h5 e5 z5 n5 hm_939
                have hq : c < 256 → K5 (254 + i.toNat) c = (if (sgF 0 sk rh mu t) (256 * i.toNat + c.toNat) = true then 1 else 0) := fun v => by rw [F5.1 _ _ (by omega) (Or.inl (by omega))]; exact hh i hi4.1 (by omega) c hc.1 v
                have m0 := hIt_0 (fl := (sgF 0 sk rh mu t)) (256 * i.toNat + c.toNat)
                have m1 := hIt_mono (fl := (sgF 0 sk rh mu t)) (a := 256 * i.toNat + c.toNat) (b := 1024) (by omega)
                refine aw_iload d_Mo_attempt_939 rfl ?_
                refine aw_sipush d_Mo_attempt_941 ⟨by decide, by decide⟩ (by decide) ?_
                refine aw_icmp_ge (tgt := 982) d_Mo_attempt_944 (by decide) (fun c_944 => ?_) (fun c_944 => ?_)
                · skip
                  refine aw_aload_n d_Mo_attempt_982 rfl rfl ?_
                  refine ax_getR (b := 263) d_Mo_attempt_983 fd_Mo_87 (k_175 S) (r_175_31 S) ?_
                  refine aw_iload d_Mo_attempt_986 rfl ?_
                  refine aw_aload_n d_Mo_attempt_988 rfl rfl ?_
                  refine ax_getIe (x := 80) d_Mo_attempt_989 fd_Mo_245 (k_175 S) (Eq.trans (F5.1 175 37 (by omega) (Or.inr (by decide))) (dr0_37 D)) ?_
                  refine ax_iadd d_Mo_attempt_992 ⟨(by omega), (by omega)⟩ ?_
                  refine ax_ti (x := 2416) (by decide) ?_
                  refine aw_iload d_Mo_attempt_993 rfl ?_
                  refine ax_iadd d_Mo_attempt_995 ⟨(by omega), (by omega)⟩ ?_
                  refine aw_iload d_Mo_attempt_996 rfl ?_
                  refine aw_i2b d_Mo_attempt_998 ?_
                  refine ax_bast d_Mo_attempt_999 (k_263 S) (by decide) (by omega) (by rw [n_263 S]; omega) ?_
                  refine ax_iinc (lv' := [(7, vi (i + 1)), (8, vi c), (6, vi nn), (5, vi 2336), (0, vr 175)]) d_Mo_attempt_1000 rfl (by decide) ⟨(by omega), (by omega)⟩ rfl ?_
                  refine aw_goto (tgt := 927) d_Mo_attempt_1003 (by decide) ?_
                  refine aw_sub (lv' := [(7, vi (i + 1)), (6, vi nn), (5, vi 2336), (0, vr 175)]) (by simp) ?_
                  exact ih_927 _ (by omega) (i + 1) nn (a_up K5 263 (2416 + i) (a_w8 (a_w8 nn))) (by omega) (F5.tr (FR.up (p := fun a => a = 263) rfl) (fun a x => ⟨x, x⟩)) (fun z x y => by rw [a_up_ne (Or.inr (by omega))]; exact h5 z x y) (e5.trans (by rw [show 256 * i.toNat + c.toNat = 256 * (i + 1).toNat + (0 : Int).toNat by omega])) (⟨fun x a b => by rw [a_up_ne (Or.inr (by omega)), z5.1 x a b, show 256 * i.toNat + c.toNat = 256 * (i + 1).toNat + (0 : Int).toNat by omega], fun x a b => by rw [a_up_ne (Or.inr (by omega))]; exact z5.2 x a b⟩) (fun m a b => by by_cases v : m = i; exact (by rw [v, show (2416 + i : Int) = 2336 + 80 + i by omega, a_up_at, a_w8w8, a_m8w, e5, show 256 * i.toNat + c.toNat = 256 * i.toNat + 256 by omega]; have n1 := hIt_0 (fl := (sgF 0 sk rh mu t)) (256 * i.toNat + 256); have n2 := hIt_mono (fl := (sgF 0 sk rh mu t)) (a := 256 * i.toNat + 256) (b := 1024) (by omega); omega); exact (by rw [a_up_ne (Or.inr (by omega))]; exact n5 m a (by omega))) rfl
                · skip
                  refine aw_aload_n d_Mo_attempt_947 rfl rfl ?_
                  refine ax_getR (b := 253) d_Mo_attempt_948 fd_Mo_81 (k_175 S) (r_175_29 S) ?_
                  refine aw_iload d_Mo_attempt_951 rfl ?_
                  refine ax_aald (b := 254 + i.toNat) d_Mo_attempt_953 ⟨by rw [(k_253 S)]; decide, by rw [(k_253 S)]; decide⟩ (by omega) (by rw [n_253 S]; omega) (g_253 S (by omega) (by omega)) ?_
                  refine aw_iload d_Mo_attempt_954 rfl ?_
                  refine ax_zalde (x := (if (sgF 0 sk rh mu t) (256 * i.toNat + c.toNat) = true then 1 else 0)) d_Mo_attempt_956 (kr_253 S (by omega)) (by omega) (by rw [nr_253 S (by omega)]; omega) (hq (by omega)) ?_
                  refine aw_if_eq (tgt := 976) d_Mo_attempt_957 (by decide) (fun c_957 => ?_) (fun c_957 => ?_)
                  · skip
                    have fy : ¬ (sgF 0 sk rh mu t) (256 * i.toNat + c.toNat) = true := fun z => by rw [if_pos z] at c_957; exact absurd c_957 (by decide)
                    have eN : 256 * i.toNat + (c + 1).toNat = (256 * i.toNat + c.toNat) + 1 := by omega
                    refine ax_iinc (lv' := [(8, vi (c + 1)), (7, vi i), (6, vi nn), (5, vi 2336), (0, vr 175)]) d_Mo_attempt_976 rfl (by decide) ⟨(by omega), (by omega)⟩ rfl ?_
                    refine aw_goto (tgt := 939) d_Mo_attempt_979 (by decide) ?_
                    exact ih_939 _ (by omega) (c + 1) nn K5 (by omega) (F5) (h5) (by rw [eN, hIt_n fy]; exact e5) (by rw [eN, hIt_n fy]; exact z5) (n5) rfl
                  · skip
                    have fy : (sgF 0 sk rh mu t) (256 * i.toNat + c.toNat) = true := Classical.byContradiction (fun z => c_957 (if_neg z))
                    have eN : 256 * i.toNat + (c + 1).toNat = (256 * i.toNat + c.toNat) + 1 := by omega
                    have m2 := hIt_mono (fl := (sgF 0 sk rh mu t)) (a := 256 * i.toNat + c.toNat + 1) (b := 1024) (by omega)
                    rw [hIt_y fy] at m2
                    have m3 : (hIt (sgF 0 sk rh mu t) (256 * i.toNat + c.toNat)).1 + 1 ≤ (hIt (sgF 0 sk rh mu t) 1024).1 := m2
                    refine aw_aload_n d_Mo_attempt_960 rfl rfl ?_
                    refine ax_getR (b := 263) d_Mo_attempt_961 fd_Mo_87 (k_175 S) (r_175_31 S) ?_
                    refine aw_iload d_Mo_attempt_964 rfl ?_
                    refine aw_iload d_Mo_attempt_966 rfl ?_
                    refine ax_iadd d_Mo_attempt_968 ⟨(by omega), (by omega)⟩ ?_
                    refine aw_iload d_Mo_attempt_969 rfl ?_
                    refine aw_i2b d_Mo_attempt_971 ?_
                    refine ax_bast d_Mo_attempt_972 (k_263 S) (by decide) (by omega) (by rw [n_263 S]; omega) ?_
                    refine ax_iinc (lv' := [(6, vi (nn + 1)), (8, vi c), (7, vi i), (5, vi 2336), (0, vr 175)]) d_Mo_attempt_973 rfl (by decide) ⟨(by omega), (by omega)⟩ rfl ?_
                    refine ax_iinc (lv' := [(8, vi (c + 1)), (6, vi (nn + 1)), (7, vi i), (5, vi 2336), (0, vr 175)]) d_Mo_attempt_976 rfl (by decide) ⟨(by omega), (by omega)⟩ rfl ?_
                    refine aw_goto (tgt := 939) d_Mo_attempt_979 (by decide) ?_
                    refine aw_sub (lv' := [(8, vi (c + 1)), (7, vi i), (6, vi (nn + 1)), (5, vi 2336), (0, vr 175)]) (by simp) ?_
                    exact ih_939 _ (by omega) (c + 1) (nn + 1) (a_up K5 263 (2336 + nn) (a_w8 (a_w8 c))) (by omega) (F5.tr (FR.up (p := fun a => a = 263) rfl) (fun a x => ⟨x, x⟩)) (fun z x y => by rw [a_up_ne (Or.inr (by omega))]; exact h5 z x y) (by rw [eN, hIt_y fy]; show nn + 1 = _ + 1; rw [e5]) (⟨fun x a b => by rw [eN, hIt_y fy]; show _ = (if x = (hIt (sgF 0 sk rh mu t) (256 * i.toNat + c.toNat)).1 then (((256 * i.toNat + c.toNat) % 256 : Nat) : Int) else (hIt (sgF 0 sk rh mu t) (256 * i.toNat + c.toNat)).2 x); by_cases v : x = nn; exact (by rw [v, a_up_at, a_w8w8, a_m8w, if_pos e5]; omega); exact (by rw [a_up_ne (Or.inr (by omega)), if_neg (by omega)]; exact z5.1 x a (by omega)), fun x a b => by rw [a_up_ne (Or.inr (by omega))]; exact z5.2 x (by omega) b⟩) (fun m a b => by rw [a_up_ne (Or.inr (by omega))]; exact n5 m a b) rfl
              skip
              exact lp_939 _ 0 nn K4 (by omega) (F4) (h4) (e4) (z4) (n4) rfl
          skip
          exact lp_927 _ 0 0 K3 (by omega) (F3) (h3) (rfl) (⟨fun x a b => by omega, fun x a b => z3 x (by omega) (by omega)⟩) (fun m a b => by omega) rfl
        · skip
          refine aw_aload_n d_Mo_attempt_907 rfl rfl ?_
          refine ax_getR (b := 263) d_Mo_attempt_908 fd_Mo_87 (k_175 S) (r_175_31 S) ?_
          refine aw_iload d_Mo_attempt_911 rfl ?_
          refine aw_iload d_Mo_attempt_913 rfl ?_
          refine ax_iadd d_Mo_attempt_915 ⟨(by omega), (by omega)⟩ ?_
          refine aw_iconst d_Mo_attempt_916 ⟨by decide, by decide⟩ ?_
          refine ax_bast d_Mo_attempt_917 (k_263 S) (by decide) (by omega) (by rw [n_263 S]; omega) ?_
          refine ax_iinc (lv' := [(7, vi (i + 1)), (6, vi 0), (5, vi 2336), (0, vr 175)]) d_Mo_attempt_918 rfl (by decide) ⟨(by omega), (by omega)⟩ rfl ?_
          refine aw_goto (tgt := 898) d_Mo_attempt_921 (by decide) ?_
          exact ih_898 _ (by omega) (i + 1) (a_up K3 263 (2336 + i) (a_w8 0)) (by omega) (F3.tr (FR.up (p := fun a => a = 263) rfl) (fun a x => ⟨x, x⟩)) (fun z x y => by rw [a_up_ne (Or.inr (by omega))]; exact h3 z x y) (fun x a b => by by_cases v : x = i; exact (by rw [v, a_up_at]; decide); exact (by rw [a_up_ne (Or.inr (by omega))]; exact z3 x a (by omega))) rfl
      skip
      exact lp_898 _ 0 K2 (by omega) (F2) (h2.cut (by omega)) (fun x a b => by omega) rfl
    · skip
      refine aw_aload_n d_Mo_attempt_837 rfl rfl ?_
      refine aw_aload_n d_Mo_attempt_838 rfl rfl ?_
      refine ax_getR (b := 263) d_Mo_attempt_839 fd_Mo_87 (k_175 S) (r_175_31 S) ?_
      refine aw_aload_n d_Mo_attempt_842 rfl rfl ?_
      refine ax_getIe (x := 32) d_Mo_attempt_843 fd_Mo_248 (k_175 S) (Eq.trans (F2.1 175 38 (by omega) (Or.inr (by decide))) (dr0_38 D)) ?_
      refine aw_aload_n d_Mo_attempt_846 rfl rfl ?_
      refine ax_getR (b := 204) d_Mo_attempt_847 fd_Mo_76 (k_175 S) (r_175_28 S) ?_
      refine aw_bipush d_Mo_attempt_850 ⟨by decide, by decide⟩ (by decide) ?_
      refine aw_iload d_Mo_attempt_852 rfl ?_
      refine ax_iadd d_Mo_attempt_854 ⟨(by omega), (by omega)⟩ ?_
      refine ax_aald (b := 205 + (23 + i).toNat) d_Mo_attempt_855 ⟨by rw [(k_204 S)]; decide, by rw [(k_204 S)]; decide⟩ (by omega) (by rw [n_204 S]; omega) (g_204 S (by omega) (by omega)) ?_
      refine aw_aload_n d_Mo_attempt_856 rfl rfl ?_
      refine ax_getIe (x := 131072) d_Mo_attempt_857 fd_Mo_237 (k_175 S) (Eq.trans (F2.1 175 35 (by omega) (Or.inr (by decide))) (dr0_35 D)) ?_
      refine aw_aload_n d_Mo_attempt_860 rfl rfl ?_
      refine ax_getIe (x := 18) d_Mo_attempt_861 fd_Mo_251 (k_175 S) (Eq.trans (F2.1 175 39 (by omega) (Or.inr (by decide))) (dr0_39 D)) ?_
      refine ax_Vr (st := []) (as := [vr 263, vi 32, vr (205 + (23 + i).toNat), vi 131072, vi 18]) (b := 175) d_Mo_attempt_864 cs_Mo_attempt_864 (k_175 S) (c_Mo_pack (pa := 32) (c := 576 * i) (d := 18) (b := 131072) S ⟨k_263 S, by decide, by decide⟩ ⟨kr_204 S (by omega), by omega, nr_204 S (by omega)⟩ (by omega) (by decide) (by omega) (fun j x y => by rw [F2.1 _ _ (by omega) (Or.inl (by omega)), hz i hi.1 (by omega) j x y]; exact wiN_18 sgZ_in (gd.1 i hi.1 (by show i < 4; omega)) x y) (by decide) (by rw [n_263 S]; omega)) rfl rfl rfl (fun u_864 q_864 => ?_)
      obtain ⟨q1, q2, q3⟩ := q_864
      show AW l G M_Mo_attempt P 867 [(5, vi i), (0, vr 175)] [] (sD h u_864 M)
      refine ax_iinc (lv' := [(5, vi (i + 1)), (0, vr 175)]) d_Mo_attempt_867 rfl (by decide) ⟨(by omega), (by omega)⟩ rfl ?_
      refine aw_goto (tgt := 828) d_Mo_attempt_870 (by decide) ?_
      exact ih_828 _ (by omega) (i + 1) u_864 (by omega) (F2.tr (FR.bits (p := fun a => a = 263) q1 rfl) (fun a x => ⟨x, x⟩)) (by omega) (fun z x y => by by_cases v : z < 32 + 576 * i; exact (by rw [q1 263 _ (Or.inr (by omega)) (Or.inl (by decide))]; exact h2 z x v); exact (by have y2 := q3 (z - (32 + 576 * i)) (by omega) (by omega); rw [show (32 + 576 * i + (z - (32 + 576 * i)) : Int) = 0 + z by omega] at y2; rw [y2, show sgPk 0 sk rh mu t z = pcB0 (sgC 0 sk rh mu t) (sgZ 0 sk rh mu t) (sgF 0 sk rh mu t) z from rfl]; unfold pcB0; rw [if_neg (by omega), if_pos (by omega), show (z - 32) / 576 = i by omega, show (z - 32) % 576 = z - (32 + 576 * i) by omega]; exact congrFun (gB_congr (fun j u v => by rw [F2.1 _ _ (by omega) (Or.inl (by omega))]; exact hz i hi.1 (by omega) j u v)) _)) rfl
  skip
  exact lp_828 _ 0 (a_up (putRow K 263 0 32 (fun k => K 267 (0 + k))) 175 23 0) (by omega) ((FR.put (p := fun a => a = 263) rfl).tr (FR.b0 (p := fun a => a = 263)) (fun a x => ⟨x, x⟩)) (by rw [a_up_at]; rfl) (fun z x y => by rw [a_up_ne (Or.inl (by decide))]; exact HR.put (g' := sgPk 0 sk rh mu t) (fun z x y => by rw [hch z x y, show sgPk 0 sk rh mu t z = pcB0 (sgC 0 sk rh mu t) (sgZ 0 sk rh mu t) (sgF 0 sk rh mu t) z from rfl]; unfold pcB0; rw [if_pos y]) z x (by omega)) rfl
theorem hIt_cnt {fl : Nat → Bool} : ∀ n : Nat, (hIt fl n).1 ≤ n
  | 0 => Int.le_refl _
  | n + 1 => by
    have z := hIt_cnt (fl := fl) n
    by_cases c : fl n = true
    · rw [hIt_y c]; show (hIt fl n).1 + 1 ≤ _; omega
    · rw [hIt_n c]; omega
theorem cen_b {p : Int} (h : 0 ≤ p ∧ p < 8380417) : -4190208 ≤ cen p ∧ cen p ≤ 4190208 := by unfold cen; split <;> omega
theorem cen_s {p w_ : Int} (h : 0 ≤ p ∧ p < 8380417) (h2 : 0 ≤ w_ ∧ w_ < 8380417) : (w_ - cen p + 8380417) % 8380417 = (w_ - p) % 8380417 := by unfold cen; split <;> omega
theorem cen_a {p w_ : Int} (h : 0 ≤ p ∧ p < 8380417) (h2 : 0 ≤ w_ ∧ w_ < 8380417) : (w_ + cen p + 8380417) % 8380417 = (w_ + p) % 8380417 := by unfold cen; split <;> omega
theorem cen_w {p t : Int} (ht : 0 < t ∧ t < 4190208) (h : 0 ≤ p ∧ p < 8380417) : (t ≤ cen p ∨ cen p ≤ -t) ↔ (t ≤ p ∧ p ≤ 8380417 - t) := by unfold cen; split <;> omega
set_option maxHeartbeats 4000000 in
set_option maxRecDepth 100000 in
theorem aE0 {l : Launch} {G : a_G} {P : a_R → Hp → Prop} {h : Hp} {K0 M0 K M : Nat → Int → Int} {sk rh mu : Int → Int} {t : Int} (S : Shp h) (D0 : RD K0 M0 0) (hk0 : HR K0 180 0 2560 sk) (km : ∀ x, sk x % 256 = sk x) (hr0 : HR K0 266 0 64 rh) (rm0 : ∀ x, rh x % 256 = rh x) (hm0 : HR K0 265 0 64 mu) (mm0 : ∀ x, mu x % 256 = mu x) (hS0 : ∀ m, 0 ≤ m → m < 8 → eqQ (K0 (205 + m.toNat)) (sgSs 0 sk m)) (hD0 : ∀ m, 0 ≤ m → m < 4 → eqQ (K0 (205 + (15 + m).toNat)) (sgDs 0 sk m)) (ht : 0 ≤ t ∧ t < 814) (F0 : FR pAt K0 M0 K M) (okk : (sgOk 0 sk ∧ bll 39 (sgBs 0 sk rh mu t) ≠ none)) (gd1 : ∀ m, 0 ≤ m → m < pL 0 → wiN (pG1 0 - sBd 0) ((sgZ 0 sk rh mu t) m)) (hch : HR K 267 0 32 (sgC 0 sk rh mu t)) (hz : ∀ m, 0 ≤ m → m < 4 → ∀ j, 0 ≤ j → j < 256 → 131072 - K (205 + (23 + m).toNat) j = (131072 - (sgZ 0 sk rh mu t) m j) % 8380417) (hW : ∀ m, 0 ≤ m → m < 4 → eqQ (K (205 + (30 + m).toNat)) ((sgW 0 sk rh t) m)) (hB : eqQ (K 251) (blX 39 (sgBs 0 sk rh mu t))) (hP : ∀ r_ h2_, RaR h K0 M0 pAt (sgOk 0 sk ∧ bll 39 (sgBs 0 sk rh mu t) ≠ none) (sgGood 0 sk rh mu t) 2420 (sgPk 0 sk rh mu t) r_ h2_ → P r_ h2_) : AW l G M_Mo_attempt P 471 [(2, vi 78), (0, vr 175)] [] (sD h K M) := by
  have D := D0.fr F0 (by decide)
  have hS : ∀ m, 0 ≤ m → m < 8 → eqQ (K (205 + m.toNat)) (sgSs 0 sk m) := fun m a b j x y => (F0.1 _ _ (by omega) (Or.inl (by omega))).trans (hS0 m a b j x y)
  have hD : ∀ m, 0 ≤ m → m < 4 → eqQ (K (205 + (15 + m).toNat)) (sgDs 0 sk m) := fun m a b j x y => (F0.1 _ _ (by omega) (Or.inl (by omega))).trans (hD0 m a b j x y)
  refine aw_iconst d_Mo_attempt_471 ⟨by decide, by decide⟩ ?_
  refine aw_istore_n (lv' := [(3, vi 0), (2, vi 78), (0, vr 175)]) d_Mo_attempt_472 rfl (by decide) rfl ?_
  refine aw_iconst d_Mo_attempt_473 ⟨by decide, by decide⟩ ?_
  refine aw_istore (lv' := [(4, vi 0), (3, vi 0), (2, vi 78), (0, vr 175)]) d_Mo_attempt_474 (by decide) rfl ?_
  refine aw_iconst d_Mo_attempt_476 ⟨by decide, by decide⟩ ?_
  refine aw_istore (lv' := [(5, vi 0), (4, vi 0), (3, vi 0), (2, vi 78), (0, vr 175)]) d_Mo_attempt_477 (by decide) rfl ?_
  have lp_479 : ∀ (n_ : Nat) (i : Int) (hn : Int) (an : Int) (K2 : Nat → Int → Int) (M2 : Nat → Int → Int), (0 ≤ i ∧ i ≤ 4) → (FR (fun a => a = 252 ∨ 235 ≤ a ∧ a ≤ 242 ∨ 254 ≤ a ∧ a ≤ 261) K M K2 M2) → (∀ m, 0 ≤ m → m < i → eqQ (K2 (205 + (30 + m).toNat)) ((sgR 0 sk rh mu t) m)) → (∀ m, 0 ≤ m → i ≤ m → m < 4 → eqQ (K2 (205 + (30 + m).toNat)) ((sgW 0 sk rh t) m)) → (∀ m : Int, 0 ≤ m → m < i → ∀ x : Int, 0 ≤ x → x < 256 → K2 (254 + m.toNat) x = (if (sgF 0 sk rh mu t) (256 * m.toNat + x.toNat) = true then 1 else 0)) → (hn = (hIt (sgF 0 sk rh mu t) (256 * i.toNat + (0 : Int).toNat)).1) → ((an = 0 ∨ an = 1) ∧ (an = 0 ↔ (∀ m, 0 ≤ m → m < i → (∀ x, 0 ≤ x → x < 256 → (-95154 < dLow 95232 ((sgR 0 sk rh mu t) m x) ∧ dLow 95232 ((sgR 0 sk rh mu t) m x) < 95154)) ∧ ∀ x, 0 ≤ x → x < 256 → (¬ (95232 ≤ (prB (sgB 0 sk rh mu t) (sgD 0 sk m) x) ∧ (prB (sgB 0 sk rh mu t) (sgD 0 sk m) x) ≤ 8380417 - 95232))))) → ((4 - i).toNat) = n_ → AW l G M_Mo_attempt P 479 [(5, vi i), (4, vi an), (3, vi hn), (2, vi 78), (0, vr 175)] [] (sD h K2 M2) := by
    intro n_
    induction n_ using Nat.strongRecOn with
    | _ n_ ih_479 =>
    intro i hn an K2 M2 hi F2 dn td hr2 e2 a2 hm_479
    have h30 := hIt_0 (fl := (sgF 0 sk rh mu t)) (256 * i.toNat + (0 : Int).toNat)
    refine aw_iload d_Mo_attempt_479 rfl ?_
    refine aw_aload_n d_Mo_attempt_481 rfl rfl ?_
    refine ax_getIe (x := 4) d_Mo_attempt_482 fd_Mo_223 (k_175 S) (Eq.trans (F2.1 175 26 (by omega) (Or.inr (by decide))) (dr0_26 D)) ?_
    refine aw_icmp_ge (tgt := 788) d_Mo_attempt_485 (by decide) (fun c_485 => ?_) (fun c_485 => ?_)
    · skip
      refine aw_iload d_Mo_attempt_788 rfl ?_
      refine aw_if_ne (tgt := 801) d_Mo_attempt_790 (by decide) (fun c_790 => ?_) (fun c_790 => ?_)
      · skip
        refine aw_iconst d_Mo_attempt_801 ⟨by decide, by decide⟩ ?_
        exact aw_iret d_Mo_attempt_802 rfl (hP _ _ ⟨_, K2, M2, rfl, rfl, F0.tr F2 (by intro a x; exact ⟨x, by intro z; exact x (by omega)⟩), Or.inr (Or.inl ⟨rfl, okk, fun z => by have y := a2.2.2 (fun m a b => ⟨fun x u v => z.2.1 m a (by show m < 4; omega) x u v, fun x u v => z.2.2.1 m a (by show m < 4; omega) x u v⟩); have y2 : (hIt (sgF 0 sk rh mu t) 1024).1 ≤ 80 := z.2.2.2; rw [show 256 * i.toNat + (0 : Int).toNat = 1024 by omega] at e2; omega⟩)⟩)
      · skip
        refine aw_iload_n d_Mo_attempt_793 rfl rfl ?_
        refine aw_aload_n d_Mo_attempt_794 rfl rfl ?_
        refine ax_getIe (x := 80) d_Mo_attempt_795 fd_Mo_245 (k_175 S) (Eq.trans (F2.1 175 37 (by omega) (Or.inr (by decide))) (dr0_37 D)) ?_
        refine aw_icmp_le (tgt := 803) d_Mo_attempt_798 (by decide) (fun c_798 => ?_) (fun c_798 => ?_)
        · skip
          refine aw_sub (lv' := [(0, vr 175)]) (by simp) ?_
          have y := a2.2.1 (by omega)
          rw [show 256 * i.toNat + (0 : Int).toNat = 1024 by omega] at e2
          exact aF0 S D0 hk0 km hr0 rm0 hm0 mm0 hS0 hD0 ht (F0.tr F2 (by intro a x; exact ⟨x, by intro z; exact x (by omega)⟩)) okk ⟨gd1, fun m a b => (y m a (by have b2 : m < 4 := b; omega)).1, fun m a b => (y m a (by have b2 : m < 4 := b; omega)).2, by show (hIt (sgF 0 sk rh mu t) 1024).1 ≤ 80; omega⟩ (hch.fr F2 (by decide) (by decide)) (fun m a b j x y => by rw [F2.1 _ _ (by omega) (Or.inl (by omega))]; exact hz m a b j x y) (fun m a b => hr2 m a (by omega)) hP
        · skip
          refine aw_iconst d_Mo_attempt_801 ⟨by decide, by decide⟩ ?_
          exact aw_iret d_Mo_attempt_802 rfl (hP _ _ ⟨_, K2, M2, rfl, rfl, F0.tr F2 (by intro a x; exact ⟨x, by intro z; exact x (by omega)⟩), Or.inr (Or.inl ⟨rfl, okk, fun z => by have y := a2.2.2 (fun m a b => ⟨fun x u v => z.2.1 m a (by show m < 4; omega) x u v, fun x u v => z.2.2.1 m a (by show m < 4; omega) x u v⟩); have y2 : (hIt (sgF 0 sk rh mu t) 1024).1 ≤ 80 := z.2.2.2; rw [show 256 * i.toNat + (0 : Int).toNat = 1024 by omega] at e2; omega⟩)⟩)
    · skip
      refine aw_aload_n d_Mo_attempt_488 rfl rfl ?_
      refine aw_aload_n d_Mo_attempt_489 rfl rfl ?_
      refine ax_getR (b := 204) d_Mo_attempt_490 fd_Mo_76 (k_175 S) (r_175_28 S) ?_
      refine aw_bipush d_Mo_attempt_493 ⟨by decide, by decide⟩ (by decide) ?_
      refine ax_aald (b := 252) d_Mo_attempt_495 ⟨by rw [(k_204 S)]; decide, by rw [(k_204 S)]; decide⟩ (by omega) (by rw [n_204 S]; omega) (g_204 S (j := 47) (by decide) (by decide)) ?_
      refine aw_aload_n d_Mo_attempt_496 rfl rfl ?_
      refine ax_getR (b := 204) d_Mo_attempt_497 fd_Mo_76 (k_175 S) (r_175_28 S) ?_
      refine aw_bipush d_Mo_attempt_500 ⟨by decide, by decide⟩ (by decide) ?_
      refine ax_aald (b := 251) d_Mo_attempt_502 ⟨by rw [(k_204 S)]; decide, by rw [(k_204 S)]; decide⟩ (by omega) (by rw [n_204 S]; omega) (g_204 S (j := 46) (by decide) (by decide)) ?_
      refine aw_aload_n d_Mo_attempt_503 rfl rfl ?_
      refine ax_getR (b := 204) d_Mo_attempt_504 fd_Mo_76 (k_175 S) (r_175_28 S) ?_
      refine aw_aload_n d_Mo_attempt_507 rfl rfl ?_
      refine ax_getIe (x := 4) d_Mo_attempt_508 fd_Mo_226 (k_175 S) (Eq.trans (F2.1 175 32 (by omega) (Or.inr (by decide))) (dr0_32 D)) ?_
      refine aw_iload d_Mo_attempt_511 rfl ?_
      refine ax_iadd d_Mo_attempt_513 ⟨(by omega), (by omega)⟩ ?_
      refine ax_aald (b := 205 + (4 + i).toNat) d_Mo_attempt_514 ⟨by rw [(k_204 S)]; decide, by rw [(k_204 S)]; decide⟩ (by omega) (by rw [n_204 S]; omega) (g_204 S (by omega) (by omega)) ?_
      refine ax_Vr (st := []) (as := [vr 252, vr 251, vr (205 + (4 + i).toNat)]) (b := 175) d_Mo_attempt_515 cs_Mo_attempt_515 (k_175 S) (c_Mo_few S ⟨k_252 S, by decide, n_252 S⟩ ⟨k_251 S, by decide, n_251 S⟩ ⟨kr_204 S (by omega), by omega, nr_204 S (by omega)⟩ (fun j x y => by rw [F2.1 _ _ (by omega) (Or.inl (by omega)), hB j x y]; exact blX_b j) (fun j x y => by rw [F2.1 _ _ (by omega) (Or.inl (by omega)), hS (4 + i) (by omega) (by omega) j x y]; have := sgSs_b (s := 0) (sk := sk) (m := 4 + i) (j := j); omega)) rfl rfl rfl (fun u_515 q_515 => ?_)
      have l1 := q_515
      have q252 : eqQ ((rowTo K2 252 256 (few (K2 251) (K2 (205 + (4 + i).toNat)))) 252) (fun j => cen (prB (sgB 0 sk rh mu t) (sgV 0 sk (4 + i)) j)) := fun j x y => by rw [rowTo_in x y]; exact few_prB (fun z u v => (F2.1 _ _ (by omega) (Or.inl (by omega))).trans (hB z u v)) (fun z u v => (F2.1 _ _ (by omega) (Or.inl (by omega))).trans (hS (4 + i) (by omega) (by omega) z u v)) j x y
      show AW l G M_Mo_attempt P 518 [(5, vi i), (4, vi an), (3, vi hn), (2, vi 78), (0, vr 175)] [] (sD h (rowTo K2 252 256 (few (K2 251) (K2 (205 + (4 + i).toNat)))) u_515)
      refine aw_iconst d_Mo_attempt_518 ⟨by decide, by decide⟩ ?_
      refine aw_istore (lv' := [(6, vi 0), (5, vi i), (4, vi an), (3, vi hn), (2, vi 78), (0, vr 175)]) d_Mo_attempt_519 (by decide) rfl ?_
      have lp_521 : ∀ (n_ : Nat) (c : Int) (an3 : Int) (K3 : Nat → Int → Int), (0 ≤ c ∧ c ≤ 256) → (FR (fun a => a = 252 ∨ 235 ≤ a ∧ a ≤ 242 ∨ 254 ≤ a ∧ a ≤ 261) K M K3 u_515) → (FR (fun a => a = 205 + (30 + i).toNat) (rowTo K2 252 256 (few (K2 251) (K2 (205 + (4 + i).toNat)))) u_515 K3 u_515) → ((∀ x, 0 ≤ x → x < c → K3 (205 + (30 + i).toNat) x = (sgR 0 sk rh mu t) i x) ∧ ∀ x, c ≤ x → x < 256 → K3 (205 + (30 + i).toNat) x = (sgW 0 sk rh t) i x) → ((an3 = 0 ∨ an3 = 1) ∧ (an3 = 0 ↔ an = 0 ∧ ∀ x, 0 ≤ x → x < c → (-95154 < dLow 95232 ((sgR 0 sk rh mu t) i x) ∧ dLow 95232 ((sgR 0 sk rh mu t) i x) < 95154))) → ((256 - c).toNat) = n_ → AW l G M_Mo_attempt P 521 [(6, vi c), (5, vi i), (4, vi an3), (3, vi hn), (2, vi 78), (0, vr 175)] [] (sD h K3 u_515) := by
        intro n_
        induction n_ using Nat.strongRecOn with
        | _ n_ ih_521 =>
        intro c an3 K3 hc F3 t3 r3 a3 hm_521
        have p3 : c < 256 → K3 252 c = cen (prB (sgB 0 sk rh mu t) (sgV 0 sk (4 + i)) c) := fun v => by rw [t3.1 _ _ (by omega) (Or.inl (by omega))]; exact q252 c hc.1 v
        have gp3 : K3 175 36 = 95232 := (F3.1 175 36 (by omega) (Or.inr (by decide))).trans (dr0_36 D)
        refine aw_iload d_Mo_attempt_521 rfl ?_
        refine aw_sipush d_Mo_attempt_523 ⟨by decide, by decide⟩ (by decide) ?_
        refine aw_icmp_ge (tgt := 624) d_Mo_attempt_526 (by decide) (fun c_526 => ?_) (fun c_526 => ?_)
        · skip
          refine aw_aload_n d_Mo_attempt_624 rfl rfl ?_
          refine aw_aload_n d_Mo_attempt_625 rfl rfl ?_
          refine ax_getR (b := 204) d_Mo_attempt_626 fd_Mo_76 (k_175 S) (r_175_28 S) ?_
          refine aw_bipush d_Mo_attempt_629 ⟨by decide, by decide⟩ (by decide) ?_
          refine ax_aald (b := 252) d_Mo_attempt_631 ⟨by rw [(k_204 S)]; decide, by rw [(k_204 S)]; decide⟩ (by omega) (by rw [n_204 S]; omega) (g_204 S (j := 47) (by decide) (by decide)) ?_
          refine aw_aload_n d_Mo_attempt_632 rfl rfl ?_
          refine ax_getR (b := 204) d_Mo_attempt_633 fd_Mo_76 (k_175 S) (r_175_28 S) ?_
          refine aw_bipush d_Mo_attempt_636 ⟨by decide, by decide⟩ (by decide) ?_
          refine ax_aald (b := 251) d_Mo_attempt_638 ⟨by rw [(k_204 S)]; decide, by rw [(k_204 S)]; decide⟩ (by omega) (by rw [n_204 S]; omega) (g_204 S (j := 46) (by decide) (by decide)) ?_
          refine aw_aload_n d_Mo_attempt_639 rfl rfl ?_
          refine ax_getR (b := 204) d_Mo_attempt_640 fd_Mo_76 (k_175 S) (r_175_28 S) ?_
          refine aw_bipush d_Mo_attempt_643 ⟨by decide, by decide⟩ (by decide) ?_
          refine aw_iload d_Mo_attempt_645 rfl ?_
          refine ax_iadd d_Mo_attempt_647 ⟨(by omega), (by omega)⟩ ?_
          refine ax_aald (b := 205 + (15 + i).toNat) d_Mo_attempt_648 ⟨by rw [(k_204 S)]; decide, by rw [(k_204 S)]; decide⟩ (by omega) (by rw [n_204 S]; omega) (g_204 S (by omega) (by omega)) ?_
          refine ax_Vr (st := []) (as := [vr 252, vr 251, vr (205 + (15 + i).toNat)]) (b := 175) d_Mo_attempt_649 cs_Mo_attempt_649 (k_175 S) (c_Mo_few S ⟨k_252 S, by decide, n_252 S⟩ ⟨k_251 S, by decide, n_251 S⟩ ⟨kr_204 S (by omega), by omega, nr_204 S (by omega)⟩ (fun j x y => by rw [F3.1 _ _ (by omega) (Or.inl (by omega)), hB j x y]; exact blX_b j) (fun j x y => by rw [F3.1 _ _ (by omega) (Or.inl (by omega)), hD i hi.1 (by omega) j x y]; have := sgDs_b (s := 0) (sk := sk) (m := i) (j := j); omega)) rfl rfl rfl (fun u_649 q_649 => ?_)
          have l2 := q_649
          have q252 : eqQ ((rowTo K3 252 256 (few (K3 251) (K3 (205 + (15 + i).toNat)))) 252) (fun j => cen (prB (sgB 0 sk rh mu t) (sgD 0 sk i) j)) := fun j x y => by rw [rowTo_in x y]; exact few_prB (fun z u v => (F3.1 _ _ (by omega) (Or.inl (by omega))).trans (hB z u v)) (fun z u v => (F3.1 _ _ (by omega) (Or.inl (by omega))).trans (hD i hi.1 (by omega) z u v)) j x y
          show AW l G M_Mo_attempt P 652 [(6, vi c), (5, vi i), (4, vi an3), (3, vi hn), (2, vi 78), (0, vr 175)] [] (sD h (rowTo K3 252 256 (few (K3 251) (K3 (205 + (15 + i).toNat)))) u_649)
          refine aw_iconst d_Mo_attempt_652 ⟨by decide, by decide⟩ ?_
          refine aw_istore (lv' := [(6, vi 0), (5, vi i), (4, vi an3), (3, vi hn), (2, vi 78), (0, vr 175)]) d_Mo_attempt_653 (by decide) rfl ?_
          have lp_655 : ∀ (n_ : Nat) (c : Int) (hn : Int) (an : Int) (K4 : Nat → Int → Int), (0 ≤ c ∧ c ≤ 256) → (FR (fun a => a = 252 ∨ 235 ≤ a ∧ a ≤ 242 ∨ 254 ≤ a ∧ a ≤ 261) K M K4 u_649) → (FR (fun a => a = 254 + i.toNat) (rowTo K3 252 256 (few (K3 251) (K3 (205 + (15 + i).toNat)))) u_649 K4 u_649) → (∀ x : Int, 0 ≤ x → x < c → K4 (254 + i.toNat) x = (if (sgF 0 sk rh mu t) (256 * i.toNat + x.toNat) = true then 1 else 0)) → (hn = (hIt (sgF 0 sk rh mu t) (256 * i.toNat + c.toNat)).1) → ((an = 0 ∨ an = 1) ∧ (an = 0 ↔ an3 = 0 ∧ ∀ x, 0 ≤ x → x < c → (¬ (95232 ≤ (prB (sgB 0 sk rh mu t) (sgD 0 sk i) x) ∧ (prB (sgB 0 sk rh mu t) (sgD 0 sk i) x) ≤ 8380417 - 95232)))) → ((256 - c).toNat) = n_ → AW l G M_Mo_attempt P 655 [(6, vi c), (5, vi i), (4, vi an), (3, vi hn), (2, vi 78), (0, vr 175)] [] (sD h K4 u_649) := by
            intro n_
            induction n_ using Nat.strongRecOn with
            | _ n_ ih_655 =>
            intro c hn an K4 hc4 F4 t4 w4 e4 a4 hm_655
            have r4 : eqQ (K4 (205 + (30 + i).toNat)) ((sgR 0 sk rh mu t) i) := fun x a b => by rw [t4.1 _ _ (by omega) (Or.inl (by omega)), rowTo_ne (by omega)]; exact r3.1 x a (by omega)
            have p4 : c < 256 → K4 252 c = cen (prB (sgB 0 sk rh mu t) (sgD 0 sk i) c) := fun v => by rw [t4.1 _ _ (by omega) (Or.inl (by omega))]; exact q252 c hc4.1 v
            have r4c : c < 256 → K4 (205 + (30 + i).toNat) c = (sgR 0 sk rh mu t) i c := fun v => r4 c hc4.1 v
            have h40 := hIt_0 (fl := (sgF 0 sk rh mu t)) (256 * i.toNat + c.toNat)
            have h41 := hIt_cnt (fl := (sgF 0 sk rh mu t)) (256 * i.toNat + c.toNat)
            have gp4 : K4 175 36 = 95232 := (F4.1 175 36 (by omega) (Or.inr (by decide))).trans (dr0_36 D)
            refine aw_iload d_Mo_attempt_655 rfl ?_
            refine aw_sipush d_Mo_attempt_657 ⟨by decide, by decide⟩ (by decide) ?_
            refine aw_icmp_ge (tgt := 782) d_Mo_attempt_660 (by decide) (fun c_660 => ?_) (fun c_660 => ?_)
            · skip
              refine ax_iinc (lv' := [(5, vi (i + 1)), (6, vi c), (4, vi an), (3, vi hn), (2, vi 78), (0, vr 175)]) d_Mo_attempt_782 rfl (by decide) ⟨(by omega), (by omega)⟩ rfl ?_
              refine aw_goto (tgt := 479) d_Mo_attempt_785 (by decide) ?_
              refine aw_sub (lv' := [(5, vi (i + 1)), (4, vi an), (3, vi hn), (2, vi 78), (0, vr 175)]) (by simp) ?_
              exact ih_479 _ (by omega) (i + 1) hn an K4 u_649 (by omega) (F4) (fun m a b j x y => by by_cases z : m = i; exact (by rw [z]; exact r4 j x y); exact (by rw [t4.1 _ _ (by omega) (Or.inl (by omega)), rowTo_ne (by omega), t3.1 _ _ (by omega) (Or.inl (by omega)), rowTo_ne (by omega)]; exact dn m a (by omega) j x y)) (fun m a b c j x y => by rw [t4.1 _ _ (by omega) (Or.inl (by omega)), rowTo_ne (by omega), t3.1 _ _ (by omega) (Or.inl (by omega)), rowTo_ne (by omega)]; exact td m a (by omega) c j x y) (fun m a b j x y => by by_cases z : m = i; exact (by rw [z]; exact w4 j x (by omega)); exact (by rw [t4.1 _ _ (by omega) (Or.inl (by omega)), rowTo_ne (by omega), t3.1 _ _ (by omega) (Or.inl (by omega)), rowTo_ne (by omega)]; exact hr2 m a (by omega) j x y)) (by rw [e4, show 256 * i.toNat + c.toNat = 256 * (i + 1).toNat + (0 : Int).toNat by omega]) (⟨a4.1, fun z m a b => by have y := a4.2.1 z; by_cases v : m = i; exact (by rw [v]; exact ⟨fun x u w_ => (a3.2.1 y.1).2 x u (by omega), fun x u w_ => y.2 x u (by omega)⟩); exact a2.2.1 (a3.2.1 y.1).1 m a (by omega), fun z => a4.2.2 ⟨a3.2.2 ⟨a2.2.2 (fun m a b => z m a (by omega)), fun x u v => (z i hi.1 (by omega)).1 x u (by omega)⟩, fun x u v => (z i hi.1 (by omega)).2 x u (by omega)⟩⟩) rfl
            · skip
              have c1 := prB_in (B := (sgB 0 sk rh mu t)) (V := (sgD 0 sk i)) c hc4.1 (by omega)
              have c2 := sgR_in (s := 0) (sk := sk) (rh := rh) (mu := mu) (t := t) (m := i) c hc4.1 (by omega)
              have c3 := cen_b c1
              have eN : 256 * i.toNat + (c + 1).toNat = (256 * i.toNat + c.toNat) + 1 := by omega
              have fat := sgF_at (s := 0) (sk := sk) (rh := rh) (mu := mu) (t := t) (m := i.toNat) (j := c.toNat) (by omega)
              rw [Int.toNat_of_nonneg hi.1, Int.toNat_of_nonneg hc4.1] at fat
              have wc := cen_w (t := 95232) (by decide) c1
              refine aw_aload_n d_Mo_attempt_663 rfl rfl ?_
              refine ax_getR (b := 204) d_Mo_attempt_664 fd_Mo_76 (k_175 S) (r_175_28 S) ?_
              refine aw_bipush d_Mo_attempt_667 ⟨by decide, by decide⟩ (by decide) ?_
              refine ax_aald (b := 252) d_Mo_attempt_669 ⟨by rw [(k_204 S)]; decide, by rw [(k_204 S)]; decide⟩ (by omega) (by rw [n_204 S]; omega) (g_204 S (j := 47) (by decide) (by decide)) ?_
              refine aw_iload d_Mo_attempt_670 rfl ?_
              refine ax_ialde (x := cen (prB (sgB 0 sk rh mu t) (sgD 0 sk i) c)) d_Mo_attempt_672 (k_252 S) (by omega) (by rw [n_252 S]; omega) (p4 (by omega)) ?_
              refine aw_istore (lv' := [(7, vi (cen (prB (sgB 0 sk rh mu t) (sgD 0 sk i) c))), (6, vi c), (5, vi i), (4, vi an), (3, vi hn), (2, vi 78), (0, vr 175)]) d_Mo_attempt_673 (by decide) rfl ?_
              refine aw_iload d_Mo_attempt_675 rfl ?_
              refine aw_aload_n d_Mo_attempt_677 rfl rfl ?_
              refine ax_getIe (x := 95232) d_Mo_attempt_678 fd_Mo_242 (k_175 S) (Eq.trans (F4.1 175 36 (by omega) (Or.inr (by decide))) (dr0_36 D)) ?_
              refine aw_icmp_ge (tgt := 694) d_Mo_attempt_681 (by decide) (fun c_681 => ?_) (fun c_681 => ?_)
              · skip
                refine aw_iconst d_Mo_attempt_694 ⟨by decide, by decide⟩ ?_
                refine aw_istore (lv' := [(4, vi 1), (7, vi (cen (prB (sgB 0 sk rh mu t) (sgD 0 sk i) c))), (6, vi c), (5, vi i), (3, vi hn), (2, vi 78), (0, vr 175)]) d_Mo_attempt_695 (by decide) rfl ?_
                refine aw_aload_n d_Mo_attempt_697 rfl rfl ?_
                refine ax_getR (b := 253) d_Mo_attempt_698 fd_Mo_81 (k_175 S) (r_175_29 S) ?_
                refine aw_iload d_Mo_attempt_701 rfl ?_
                refine ax_aald (b := 254 + i.toNat) d_Mo_attempt_703 ⟨by rw [(k_253 S)]; decide, by rw [(k_253 S)]; decide⟩ (by omega) (by rw [n_253 S]; omega) (g_253 S (by omega) (by omega)) ?_
                refine aw_iload d_Mo_attempt_704 rfl ?_
                refine aw_aload_n d_Mo_attempt_706 rfl rfl ?_
                refine aw_aload_n d_Mo_attempt_707 rfl rfl ?_
                refine ax_getR (b := 204) d_Mo_attempt_708 fd_Mo_76 (k_175 S) (r_175_28 S) ?_
                refine aw_bipush d_Mo_attempt_711 ⟨by decide, by decide⟩ (by decide) ?_
                refine aw_iload d_Mo_attempt_713 rfl ?_
                refine ax_iadd d_Mo_attempt_715 ⟨(by omega), (by omega)⟩ ?_
                refine ax_aald (b := 205 + (30 + i).toNat) d_Mo_attempt_716 ⟨by rw [(k_204 S)]; decide, by rw [(k_204 S)]; decide⟩ (by omega) (by rw [n_204 S]; omega) (g_204 S (by omega) (by omega)) ?_
                refine aw_iload d_Mo_attempt_717 rfl ?_
                refine ax_ialde (x := (sgR 0 sk rh mu t) i c) d_Mo_attempt_719 (kr_204 S (by omega)) (by omega) (by rw [nr_204 S (by omega)]; omega) (r4c (by omega)) ?_
                refine aw_iload d_Mo_attempt_720 rfl ?_
                refine ax_iadd d_Mo_attempt_722 ⟨(by omega), (by omega)⟩ ?_
                refine aw_ldcw (n := 8380417) d_Mo_attempt_723 lc_Mo_264 ⟨by decide, by decide⟩ ?_
                refine ax_iadd d_Mo_attempt_726 ⟨(by omega), (by omega)⟩ ?_
                refine aw_ldcw (n := 8380417) d_Mo_attempt_727 lc_Mo_264 ⟨by decide, by decide⟩ ?_
                refine ax_irem d_Mo_attempt_730 (by omega) (by omega) ?_
                refine ax_ti (x := ((sgR 0 sk rh mu t) i c + (prB (sgB 0 sk rh mu t) (sgD 0 sk i) c)) % 8380417) (cen_a c1 c2) ?_
                refine ax_V (st := [vi c, vr (254 + i.toNat)]) (as := [vi (((sgR 0 sk rh mu t) i c + (prB (sgB 0 sk rh mu t) (sgD 0 sk i) c)) % 8380417)]) (b := 175) (v := some (vi (dHigh 95232 (((sgR 0 sk rh mu t) i c + (prB (sgB 0 sk rh mu t) (sgD 0 sk i) c)) % 8380417)))) (h' := sD h K4 u_649) d_Mo_attempt_731 cs_Mo_attempt_731 (k_175 S) (by have z := c_Mo_high (l := l) (G := G) (L := u_649) (I := K4) (r := ((sgR 0 sk rh mu t) i c + (prB (sgB 0 sk rh mu t) (sgD 0 sk i) c)) % 8380417) S (by rw [gp4]; decide) (by omega); rw [gp4] at z; exact z) rfl rfl rfl ?_
                show AW l G M_Mo_attempt P 734 [(4, vi 1), (7, vi (cen (prB (sgB 0 sk rh mu t) (sgD 0 sk i) c))), (6, vi c), (5, vi i), (3, vi hn), (2, vi 78), (0, vr 175)] [vi (dHigh 95232 (((sgR 0 sk rh mu t) i c + (prB (sgB 0 sk rh mu t) (sgD 0 sk i) c)) % 8380417)), vi c, vr (254 + i.toNat)] (sD h K4 u_649)
                refine aw_aload_n d_Mo_attempt_734 rfl rfl ?_
                refine aw_aload_n d_Mo_attempt_735 rfl rfl ?_
                refine ax_getR (b := 204) d_Mo_attempt_736 fd_Mo_76 (k_175 S) (r_175_28 S) ?_
                refine aw_bipush d_Mo_attempt_739 ⟨by decide, by decide⟩ (by decide) ?_
                refine aw_iload d_Mo_attempt_741 rfl ?_
                refine ax_iadd d_Mo_attempt_743 ⟨(by omega), (by omega)⟩ ?_
                refine ax_aald (b := 205 + (30 + i).toNat) d_Mo_attempt_744 ⟨by rw [(k_204 S)]; decide, by rw [(k_204 S)]; decide⟩ (by omega) (by rw [n_204 S]; omega) (g_204 S (by omega) (by omega)) ?_
                refine aw_iload d_Mo_attempt_745 rfl ?_
                refine ax_ialde (x := (sgR 0 sk rh mu t) i c) d_Mo_attempt_747 (kr_204 S (by omega)) (by omega) (by rw [nr_204 S (by omega)]; omega) (r4c (by omega)) ?_
                refine ax_V (st := [vi (dHigh 95232 (((sgR 0 sk rh mu t) i c + (prB (sgB 0 sk rh mu t) (sgD 0 sk i) c)) % 8380417)), vi c, vr (254 + i.toNat)]) (as := [vi ((sgR 0 sk rh mu t) i c)]) (b := 175) (v := some (vi (dHigh 95232 ((sgR 0 sk rh mu t) i c)))) (h' := sD h K4 u_649) d_Mo_attempt_748 cs_Mo_attempt_748 (k_175 S) (by have z := c_Mo_high (l := l) (G := G) (L := u_649) (I := K4) (r := (sgR 0 sk rh mu t) i c) S (by rw [gp4]; decide) (sgR_in c hc4.1 (by omega)); rw [gp4] at z; exact z) rfl rfl rfl ?_
                show AW l G M_Mo_attempt P 751 [(4, vi 1), (7, vi (cen (prB (sgB 0 sk rh mu t) (sgD 0 sk i) c))), (6, vi c), (5, vi i), (3, vi hn), (2, vi 78), (0, vr 175)] [vi (dHigh 95232 ((sgR 0 sk rh mu t) i c)), vi (dHigh 95232 (((sgR 0 sk rh mu t) i c + (prB (sgB 0 sk rh mu t) (sgD 0 sk i) c)) % 8380417)), vi c, vr (254 + i.toNat)] (sD h K4 u_649)
                refine aw_icmp_eq (tgt := 758) d_Mo_attempt_751 (by decide) (fun c_751 => ?_) (fun c_751 => ?_)
                · skip
                  have fy : ¬ (sgF 0 sk rh mu t) (256 * i.toNat + c.toNat) = true := fun z => fat.1 z c_751
                  refine aw_iconst d_Mo_attempt_758 ⟨by decide, by decide⟩ ?_
                  refine ax_zast d_Mo_attempt_759 (kr_253 S (by omega)) (by omega) (by omega) (by rw [nr_253 S (by omega)]; omega) (by omega) ?_
                  refine aw_aload_n d_Mo_attempt_760 rfl rfl ?_
                  refine ax_getR (b := 253) d_Mo_attempt_761 fd_Mo_81 (k_175 S) (r_175_29 S) ?_
                  refine aw_iload d_Mo_attempt_764 rfl ?_
                  refine ax_aald (b := 254 + i.toNat) d_Mo_attempt_766 ⟨by rw [(k_253 S)]; decide, by rw [(k_253 S)]; decide⟩ (by omega) (by rw [n_253 S]; omega) (g_253 S (by omega) (by omega)) ?_
                  refine aw_iload d_Mo_attempt_767 rfl ?_
                  refine ax_zalde (x := 0) d_Mo_attempt_769 (kr_253 S (by omega)) (by omega) (by rw [nr_253 S (by omega)]; omega) (a_up_at) ?_
                  refine aw_if_eq (tgt := 776) d_Mo_attempt_770 (by decide) (fun c_770 => ?_) (fun c_770 => False.elim (by omega))
                  refine ax_iinc (lv' := [(6, vi (c + 1)), (4, vi 1), (7, vi (cen (prB (sgB 0 sk rh mu t) (sgD 0 sk i) c))), (5, vi i), (3, vi hn), (2, vi 78), (0, vr 175)]) d_Mo_attempt_776 rfl (by decide) ⟨(by omega), (by omega)⟩ rfl ?_
                  refine aw_goto (tgt := 655) d_Mo_attempt_779 (by decide) ?_
                  refine aw_sub (lv' := [(6, vi (c + 1)), (5, vi i), (4, vi 1), (3, vi hn), (2, vi 78), (0, vr 175)]) (by simp) ?_
                  exact ih_655 _ (by omega) (c + 1) hn 1 (a_up K4 (254 + i.toNat) c 0) (by omega) (F4.tr (FR.up (p := fun a => a = 252 ∨ 235 ≤ a ∧ a ≤ 242 ∨ 254 ≤ a ∧ a ≤ 261) (by omega)) (fun a x => ⟨x, x⟩)) (t4.tr (FR.up (p := fun a => a = 254 + i.toNat) rfl) (fun a x => ⟨x, x⟩)) (fun x a b => by by_cases z : x = c; exact (by rw [z, a_up_at, if_neg fy]); exact (by rw [a_up_ne (Or.inr z)]; exact w4 x a (by omega))) (by rw [eN, hIt_n fy]; exact e4) (⟨Or.inr rfl, fun z => absurd z (by decide), fun z => by have y := z.2 c hc4.1 (by omega); unfold cen at *; (repeat (first | omega | split at *))⟩) rfl
                · skip
                  have fy : (sgF 0 sk rh mu t) (256 * i.toNat + c.toNat) = true := fat.2 c_751
                  refine aw_iconst d_Mo_attempt_754 ⟨by decide, by decide⟩ ?_
                  refine aw_goto (tgt := 759) d_Mo_attempt_755 (by decide) ?_
                  refine ax_zast d_Mo_attempt_759 (kr_253 S (by omega)) (by omega) (by omega) (by rw [nr_253 S (by omega)]; omega) (by omega) ?_
                  refine aw_aload_n d_Mo_attempt_760 rfl rfl ?_
                  refine ax_getR (b := 253) d_Mo_attempt_761 fd_Mo_81 (k_175 S) (r_175_29 S) ?_
                  refine aw_iload d_Mo_attempt_764 rfl ?_
                  refine ax_aald (b := 254 + i.toNat) d_Mo_attempt_766 ⟨by rw [(k_253 S)]; decide, by rw [(k_253 S)]; decide⟩ (by omega) (by rw [n_253 S]; omega) (g_253 S (by omega) (by omega)) ?_
                  refine aw_iload d_Mo_attempt_767 rfl ?_
                  refine ax_zalde (x := 1) d_Mo_attempt_769 (kr_253 S (by omega)) (by omega) (by rw [nr_253 S (by omega)]; omega) (a_up_at) ?_
                  refine aw_if_eq (tgt := 776) d_Mo_attempt_770 (by decide) (fun c_770 => False.elim (by omega)) (fun c_770 => ?_)
                  refine ax_iinc (lv' := [(3, vi (hn + 1)), (4, vi 1), (7, vi (cen (prB (sgB 0 sk rh mu t) (sgD 0 sk i) c))), (6, vi c), (5, vi i), (2, vi 78), (0, vr 175)]) d_Mo_attempt_773 rfl (by decide) ⟨(by omega), (by omega)⟩ rfl ?_
                  refine ax_iinc (lv' := [(6, vi (c + 1)), (3, vi (hn + 1)), (4, vi 1), (7, vi (cen (prB (sgB 0 sk rh mu t) (sgD 0 sk i) c))), (5, vi i), (2, vi 78), (0, vr 175)]) d_Mo_attempt_776 rfl (by decide) ⟨(by omega), (by omega)⟩ rfl ?_
                  refine aw_goto (tgt := 655) d_Mo_attempt_779 (by decide) ?_
                  refine aw_sub (lv' := [(6, vi (c + 1)), (5, vi i), (4, vi 1), (3, vi (hn + 1)), (2, vi 78), (0, vr 175)]) (by simp) ?_
                  exact ih_655 _ (by omega) (c + 1) (hn + 1) 1 (a_up K4 (254 + i.toNat) c 1) (by omega) (F4.tr (FR.up (p := fun a => a = 252 ∨ 235 ≤ a ∧ a ≤ 242 ∨ 254 ≤ a ∧ a ≤ 261) (by omega)) (fun a x => ⟨x, x⟩)) (t4.tr (FR.up (p := fun a => a = 254 + i.toNat) rfl) (fun a x => ⟨x, x⟩)) (fun x a b => by by_cases z : x = c; exact (by rw [z, a_up_at, if_pos fy]); exact (by rw [a_up_ne (Or.inr z)]; exact w4 x a (by omega))) (by rw [eN, hIt_y fy]; show hn + 1 = _ + 1; rw [e4]) (⟨Or.inr rfl, fun z => absurd z (by decide), fun z => by have y := z.2 c hc4.1 (by omega); unfold cen at *; (repeat (first | omega | split at *))⟩) rfl
              · skip
                refine aw_iload d_Mo_attempt_684 rfl ?_
                refine aw_aload_n d_Mo_attempt_686 rfl rfl ?_
                refine ax_getIe (x := 95232) d_Mo_attempt_687 fd_Mo_242 (k_175 S) (Eq.trans (F4.1 175 36 (by omega) (Or.inr (by decide))) (dr0_36 D)) ?_
                refine ax_ineg d_Mo_attempt_690 (by omega) (by omega) ?_
                refine aw_icmp_gt (tgt := 697) d_Mo_attempt_691 (by decide) (fun c_691 => ?_) (fun c_691 => ?_)
                · skip
                  have wn : (¬ (95232 ≤ (prB (sgB 0 sk rh mu t) (sgD 0 sk i) c) ∧ (prB (sgB 0 sk rh mu t) (sgD 0 sk i) c) ≤ 8380417 - 95232)) := by omega
                  refine aw_aload_n d_Mo_attempt_697 rfl rfl ?_
                  refine ax_getR (b := 253) d_Mo_attempt_698 fd_Mo_81 (k_175 S) (r_175_29 S) ?_
                  refine aw_iload d_Mo_attempt_701 rfl ?_
                  refine ax_aald (b := 254 + i.toNat) d_Mo_attempt_703 ⟨by rw [(k_253 S)]; decide, by rw [(k_253 S)]; decide⟩ (by omega) (by rw [n_253 S]; omega) (g_253 S (by omega) (by omega)) ?_
                  refine aw_iload d_Mo_attempt_704 rfl ?_
                  refine aw_aload_n d_Mo_attempt_706 rfl rfl ?_
                  refine aw_aload_n d_Mo_attempt_707 rfl rfl ?_
                  refine ax_getR (b := 204) d_Mo_attempt_708 fd_Mo_76 (k_175 S) (r_175_28 S) ?_
                  refine aw_bipush d_Mo_attempt_711 ⟨by decide, by decide⟩ (by decide) ?_
                  refine aw_iload d_Mo_attempt_713 rfl ?_
                  refine ax_iadd d_Mo_attempt_715 ⟨(by omega), (by omega)⟩ ?_
                  refine ax_aald (b := 205 + (30 + i).toNat) d_Mo_attempt_716 ⟨by rw [(k_204 S)]; decide, by rw [(k_204 S)]; decide⟩ (by omega) (by rw [n_204 S]; omega) (g_204 S (by omega) (by omega)) ?_
                  refine aw_iload d_Mo_attempt_717 rfl ?_
                  refine ax_ialde (x := (sgR 0 sk rh mu t) i c) d_Mo_attempt_719 (kr_204 S (by omega)) (by omega) (by rw [nr_204 S (by omega)]; omega) (r4c (by omega)) ?_
                  refine aw_iload d_Mo_attempt_720 rfl ?_
                  refine ax_iadd d_Mo_attempt_722 ⟨(by omega), (by omega)⟩ ?_
                  refine aw_ldcw (n := 8380417) d_Mo_attempt_723 lc_Mo_264 ⟨by decide, by decide⟩ ?_
                  refine ax_iadd d_Mo_attempt_726 ⟨(by omega), (by omega)⟩ ?_
                  refine aw_ldcw (n := 8380417) d_Mo_attempt_727 lc_Mo_264 ⟨by decide, by decide⟩ ?_
                  refine ax_irem d_Mo_attempt_730 (by omega) (by omega) ?_
                  refine ax_ti (x := ((sgR 0 sk rh mu t) i c + (prB (sgB 0 sk rh mu t) (sgD 0 sk i) c)) % 8380417) (cen_a c1 c2) ?_
                  refine ax_V (st := [vi c, vr (254 + i.toNat)]) (as := [vi (((sgR 0 sk rh mu t) i c + (prB (sgB 0 sk rh mu t) (sgD 0 sk i) c)) % 8380417)]) (b := 175) (v := some (vi (dHigh 95232 (((sgR 0 sk rh mu t) i c + (prB (sgB 0 sk rh mu t) (sgD 0 sk i) c)) % 8380417)))) (h' := sD h K4 u_649) d_Mo_attempt_731 cs_Mo_attempt_731 (k_175 S) (by have z := c_Mo_high (l := l) (G := G) (L := u_649) (I := K4) (r := ((sgR 0 sk rh mu t) i c + (prB (sgB 0 sk rh mu t) (sgD 0 sk i) c)) % 8380417) S (by rw [gp4]; decide) (by omega); rw [gp4] at z; exact z) rfl rfl rfl ?_
                  show AW l G M_Mo_attempt P 734 [(7, vi (cen (prB (sgB 0 sk rh mu t) (sgD 0 sk i) c))), (6, vi c), (5, vi i), (4, vi an), (3, vi hn), (2, vi 78), (0, vr 175)] [vi (dHigh 95232 (((sgR 0 sk rh mu t) i c + (prB (sgB 0 sk rh mu t) (sgD 0 sk i) c)) % 8380417)), vi c, vr (254 + i.toNat)] (sD h K4 u_649)
                  refine aw_aload_n d_Mo_attempt_734 rfl rfl ?_
                  refine aw_aload_n d_Mo_attempt_735 rfl rfl ?_
                  refine ax_getR (b := 204) d_Mo_attempt_736 fd_Mo_76 (k_175 S) (r_175_28 S) ?_
                  refine aw_bipush d_Mo_attempt_739 ⟨by decide, by decide⟩ (by decide) ?_
                  refine aw_iload d_Mo_attempt_741 rfl ?_
                  refine ax_iadd d_Mo_attempt_743 ⟨(by omega), (by omega)⟩ ?_
                  refine ax_aald (b := 205 + (30 + i).toNat) d_Mo_attempt_744 ⟨by rw [(k_204 S)]; decide, by rw [(k_204 S)]; decide⟩ (by omega) (by rw [n_204 S]; omega) (g_204 S (by omega) (by omega)) ?_
                  refine aw_iload d_Mo_attempt_745 rfl ?_
                  refine ax_ialde (x := (sgR 0 sk rh mu t) i c) d_Mo_attempt_747 (kr_204 S (by omega)) (by omega) (by rw [nr_204 S (by omega)]; omega) (r4c (by omega)) ?_
                  refine ax_V (st := [vi (dHigh 95232 (((sgR 0 sk rh mu t) i c + (prB (sgB 0 sk rh mu t) (sgD 0 sk i) c)) % 8380417)), vi c, vr (254 + i.toNat)]) (as := [vi ((sgR 0 sk rh mu t) i c)]) (b := 175) (v := some (vi (dHigh 95232 ((sgR 0 sk rh mu t) i c)))) (h' := sD h K4 u_649) d_Mo_attempt_748 cs_Mo_attempt_748 (k_175 S) (by have z := c_Mo_high (l := l) (G := G) (L := u_649) (I := K4) (r := (sgR 0 sk rh mu t) i c) S (by rw [gp4]; decide) (sgR_in c hc4.1 (by omega)); rw [gp4] at z; exact z) rfl rfl rfl ?_
                  show AW l G M_Mo_attempt P 751 [(7, vi (cen (prB (sgB 0 sk rh mu t) (sgD 0 sk i) c))), (6, vi c), (5, vi i), (4, vi an), (3, vi hn), (2, vi 78), (0, vr 175)] [vi (dHigh 95232 ((sgR 0 sk rh mu t) i c)), vi (dHigh 95232 (((sgR 0 sk rh mu t) i c + (prB (sgB 0 sk rh mu t) (sgD 0 sk i) c)) % 8380417)), vi c, vr (254 + i.toNat)] (sD h K4 u_649)
                  refine aw_icmp_eq (tgt := 758) d_Mo_attempt_751 (by decide) (fun c_751 => ?_) (fun c_751 => ?_)
                  · skip
                    have fy : ¬ (sgF 0 sk rh mu t) (256 * i.toNat + c.toNat) = true := fun z => fat.1 z c_751
                    refine aw_iconst d_Mo_attempt_758 ⟨by decide, by decide⟩ ?_
                    refine ax_zast d_Mo_attempt_759 (kr_253 S (by omega)) (by omega) (by omega) (by rw [nr_253 S (by omega)]; omega) (by omega) ?_
                    refine aw_aload_n d_Mo_attempt_760 rfl rfl ?_
                    refine ax_getR (b := 253) d_Mo_attempt_761 fd_Mo_81 (k_175 S) (r_175_29 S) ?_
                    refine aw_iload d_Mo_attempt_764 rfl ?_
                    refine ax_aald (b := 254 + i.toNat) d_Mo_attempt_766 ⟨by rw [(k_253 S)]; decide, by rw [(k_253 S)]; decide⟩ (by omega) (by rw [n_253 S]; omega) (g_253 S (by omega) (by omega)) ?_
                    refine aw_iload d_Mo_attempt_767 rfl ?_
                    refine ax_zalde (x := 0) d_Mo_attempt_769 (kr_253 S (by omega)) (by omega) (by rw [nr_253 S (by omega)]; omega) (a_up_at) ?_
                    refine aw_if_eq (tgt := 776) d_Mo_attempt_770 (by decide) (fun c_770 => ?_) (fun c_770 => False.elim (by omega))
                    refine ax_iinc (lv' := [(6, vi (c + 1)), (7, vi (cen (prB (sgB 0 sk rh mu t) (sgD 0 sk i) c))), (5, vi i), (4, vi an), (3, vi hn), (2, vi 78), (0, vr 175)]) d_Mo_attempt_776 rfl (by decide) ⟨(by omega), (by omega)⟩ rfl ?_
                    refine aw_goto (tgt := 655) d_Mo_attempt_779 (by decide) ?_
                    refine aw_sub (lv' := [(6, vi (c + 1)), (5, vi i), (4, vi an), (3, vi hn), (2, vi 78), (0, vr 175)]) (by simp) ?_
                    exact ih_655 _ (by omega) (c + 1) hn an (a_up K4 (254 + i.toNat) c 0) (by omega) (F4.tr (FR.up (p := fun a => a = 252 ∨ 235 ≤ a ∧ a ≤ 242 ∨ 254 ≤ a ∧ a ≤ 261) (by omega)) (fun a x => ⟨x, x⟩)) (t4.tr (FR.up (p := fun a => a = 254 + i.toNat) rfl) (fun a x => ⟨x, x⟩)) (fun x a b => by by_cases z : x = c; exact (by rw [z, a_up_at, if_neg fy]); exact (by rw [a_up_ne (Or.inr z)]; exact w4 x a (by omega))) (by rw [eN, hIt_n fy]; exact e4) (⟨a4.1, fun z => ⟨(a4.2.1 z).1, fun x a b => by by_cases y : x = c; exact (by rw [y]; exact wn); exact (a4.2.1 z).2 x a (by omega)⟩, fun z => a4.2.2 ⟨z.1, fun x a b => z.2 x a (by omega)⟩⟩) rfl
                  · skip
                    have fy : (sgF 0 sk rh mu t) (256 * i.toNat + c.toNat) = true := fat.2 c_751
                    refine aw_iconst d_Mo_attempt_754 ⟨by decide, by decide⟩ ?_
                    refine aw_goto (tgt := 759) d_Mo_attempt_755 (by decide) ?_
                    refine ax_zast d_Mo_attempt_759 (kr_253 S (by omega)) (by omega) (by omega) (by rw [nr_253 S (by omega)]; omega) (by omega) ?_
                    refine aw_aload_n d_Mo_attempt_760 rfl rfl ?_
                    refine ax_getR (b := 253) d_Mo_attempt_761 fd_Mo_81 (k_175 S) (r_175_29 S) ?_
                    refine aw_iload d_Mo_attempt_764 rfl ?_
                    refine ax_aald (b := 254 + i.toNat) d_Mo_attempt_766 ⟨by rw [(k_253 S)]; decide, by rw [(k_253 S)]; decide⟩ (by omega) (by rw [n_253 S]; omega) (g_253 S (by omega) (by omega)) ?_
                    refine aw_iload d_Mo_attempt_767 rfl ?_
                    refine ax_zalde (x := 1) d_Mo_attempt_769 (kr_253 S (by omega)) (by omega) (by rw [nr_253 S (by omega)]; omega) (a_up_at) ?_
                    refine aw_if_eq (tgt := 776) d_Mo_attempt_770 (by decide) (fun c_770 => False.elim (by omega)) (fun c_770 => ?_)
                    refine ax_iinc (lv' := [(3, vi (hn + 1)), (7, vi (cen (prB (sgB 0 sk rh mu t) (sgD 0 sk i) c))), (6, vi c), (5, vi i), (4, vi an), (2, vi 78), (0, vr 175)]) d_Mo_attempt_773 rfl (by decide) ⟨(by omega), (by omega)⟩ rfl ?_
                    refine ax_iinc (lv' := [(6, vi (c + 1)), (3, vi (hn + 1)), (7, vi (cen (prB (sgB 0 sk rh mu t) (sgD 0 sk i) c))), (5, vi i), (4, vi an), (2, vi 78), (0, vr 175)]) d_Mo_attempt_776 rfl (by decide) ⟨(by omega), (by omega)⟩ rfl ?_
                    refine aw_goto (tgt := 655) d_Mo_attempt_779 (by decide) ?_
                    refine aw_sub (lv' := [(6, vi (c + 1)), (5, vi i), (4, vi an), (3, vi (hn + 1)), (2, vi 78), (0, vr 175)]) (by simp) ?_
                    exact ih_655 _ (by omega) (c + 1) (hn + 1) an (a_up K4 (254 + i.toNat) c 1) (by omega) (F4.tr (FR.up (p := fun a => a = 252 ∨ 235 ≤ a ∧ a ≤ 242 ∨ 254 ≤ a ∧ a ≤ 261) (by omega)) (fun a x => ⟨x, x⟩)) (t4.tr (FR.up (p := fun a => a = 254 + i.toNat) rfl) (fun a x => ⟨x, x⟩)) (fun x a b => by by_cases z : x = c; exact (by rw [z, a_up_at, if_pos fy]); exact (by rw [a_up_ne (Or.inr z)]; exact w4 x a (by omega))) (by rw [eN, hIt_y fy]; show hn + 1 = _ + 1; rw [e4]) (⟨a4.1, fun z => ⟨(a4.2.1 z).1, fun x a b => by by_cases y : x = c; exact (by rw [y]; exact wn); exact (a4.2.1 z).2 x a (by omega)⟩, fun z => a4.2.2 ⟨z.1, fun x a b => z.2 x a (by omega)⟩⟩) rfl
                · skip
                  refine aw_iconst d_Mo_attempt_694 ⟨by decide, by decide⟩ ?_
                  refine aw_istore (lv' := [(4, vi 1), (7, vi (cen (prB (sgB 0 sk rh mu t) (sgD 0 sk i) c))), (6, vi c), (5, vi i), (3, vi hn), (2, vi 78), (0, vr 175)]) d_Mo_attempt_695 (by decide) rfl ?_
                  refine aw_aload_n d_Mo_attempt_697 rfl rfl ?_
                  refine ax_getR (b := 253) d_Mo_attempt_698 fd_Mo_81 (k_175 S) (r_175_29 S) ?_
                  refine aw_iload d_Mo_attempt_701 rfl ?_
                  refine ax_aald (b := 254 + i.toNat) d_Mo_attempt_703 ⟨by rw [(k_253 S)]; decide, by rw [(k_253 S)]; decide⟩ (by omega) (by rw [n_253 S]; omega) (g_253 S (by omega) (by omega)) ?_
                  refine aw_iload d_Mo_attempt_704 rfl ?_
                  refine aw_aload_n d_Mo_attempt_706 rfl rfl ?_
                  refine aw_aload_n d_Mo_attempt_707 rfl rfl ?_
                  refine ax_getR (b := 204) d_Mo_attempt_708 fd_Mo_76 (k_175 S) (r_175_28 S) ?_
                  refine aw_bipush d_Mo_attempt_711 ⟨by decide, by decide⟩ (by decide) ?_
                  refine aw_iload d_Mo_attempt_713 rfl ?_
                  refine ax_iadd d_Mo_attempt_715 ⟨(by omega), (by omega)⟩ ?_
                  refine ax_aald (b := 205 + (30 + i).toNat) d_Mo_attempt_716 ⟨by rw [(k_204 S)]; decide, by rw [(k_204 S)]; decide⟩ (by omega) (by rw [n_204 S]; omega) (g_204 S (by omega) (by omega)) ?_
                  refine aw_iload d_Mo_attempt_717 rfl ?_
                  refine ax_ialde (x := (sgR 0 sk rh mu t) i c) d_Mo_attempt_719 (kr_204 S (by omega)) (by omega) (by rw [nr_204 S (by omega)]; omega) (r4c (by omega)) ?_
                  refine aw_iload d_Mo_attempt_720 rfl ?_
                  refine ax_iadd d_Mo_attempt_722 ⟨(by omega), (by omega)⟩ ?_
                  refine aw_ldcw (n := 8380417) d_Mo_attempt_723 lc_Mo_264 ⟨by decide, by decide⟩ ?_
                  refine ax_iadd d_Mo_attempt_726 ⟨(by omega), (by omega)⟩ ?_
                  refine aw_ldcw (n := 8380417) d_Mo_attempt_727 lc_Mo_264 ⟨by decide, by decide⟩ ?_
                  refine ax_irem d_Mo_attempt_730 (by omega) (by omega) ?_
                  refine ax_ti (x := ((sgR 0 sk rh mu t) i c + (prB (sgB 0 sk rh mu t) (sgD 0 sk i) c)) % 8380417) (cen_a c1 c2) ?_
                  refine ax_V (st := [vi c, vr (254 + i.toNat)]) (as := [vi (((sgR 0 sk rh mu t) i c + (prB (sgB 0 sk rh mu t) (sgD 0 sk i) c)) % 8380417)]) (b := 175) (v := some (vi (dHigh 95232 (((sgR 0 sk rh mu t) i c + (prB (sgB 0 sk rh mu t) (sgD 0 sk i) c)) % 8380417)))) (h' := sD h K4 u_649) d_Mo_attempt_731 cs_Mo_attempt_731 (k_175 S) (by have z := c_Mo_high (l := l) (G := G) (L := u_649) (I := K4) (r := ((sgR 0 sk rh mu t) i c + (prB (sgB 0 sk rh mu t) (sgD 0 sk i) c)) % 8380417) S (by rw [gp4]; decide) (by omega); rw [gp4] at z; exact z) rfl rfl rfl ?_
                  show AW l G M_Mo_attempt P 734 [(4, vi 1), (7, vi (cen (prB (sgB 0 sk rh mu t) (sgD 0 sk i) c))), (6, vi c), (5, vi i), (3, vi hn), (2, vi 78), (0, vr 175)] [vi (dHigh 95232 (((sgR 0 sk rh mu t) i c + (prB (sgB 0 sk rh mu t) (sgD 0 sk i) c)) % 8380417)), vi c, vr (254 + i.toNat)] (sD h K4 u_649)
                  refine aw_aload_n d_Mo_attempt_734 rfl rfl ?_
                  refine aw_aload_n d_Mo_attempt_735 rfl rfl ?_
                  refine ax_getR (b := 204) d_Mo_attempt_736 fd_Mo_76 (k_175 S) (r_175_28 S) ?_
                  refine aw_bipush d_Mo_attempt_739 ⟨by decide, by decide⟩ (by decide) ?_
                  refine aw_iload d_Mo_attempt_741 rfl ?_
                  refine ax_iadd d_Mo_attempt_743 ⟨(by omega), (by omega)⟩ ?_
                  refine ax_aald (b := 205 + (30 + i).toNat) d_Mo_attempt_744 ⟨by rw [(k_204 S)]; decide, by rw [(k_204 S)]; decide⟩ (by omega) (by rw [n_204 S]; omega) (g_204 S (by omega) (by omega)) ?_
                  refine aw_iload d_Mo_attempt_745 rfl ?_
                  refine ax_ialde (x := (sgR 0 sk rh mu t) i c) d_Mo_attempt_747 (kr_204 S (by omega)) (by omega) (by rw [nr_204 S (by omega)]; omega) (r4c (by omega)) ?_
                  refine ax_V (st := [vi (dHigh 95232 (((sgR 0 sk rh mu t) i c + (prB (sgB 0 sk rh mu t) (sgD 0 sk i) c)) % 8380417)), vi c, vr (254 + i.toNat)]) (as := [vi ((sgR 0 sk rh mu t) i c)]) (b := 175) (v := some (vi (dHigh 95232 ((sgR 0 sk rh mu t) i c)))) (h' := sD h K4 u_649) d_Mo_attempt_748 cs_Mo_attempt_748 (k_175 S) (by have z := c_Mo_high (l := l) (G := G) (L := u_649) (I := K4) (r := (sgR 0 sk rh mu t) i c) S (by rw [gp4]; decide) (sgR_in c hc4.1 (by omega)); rw [gp4] at z; exact z) rfl rfl rfl ?_
                  show AW l G M_Mo_attempt P 751 [(4, vi 1), (7, vi (cen (prB (sgB 0 sk rh mu t) (sgD 0 sk i) c))), (6, vi c), (5, vi i), (3, vi hn), (2, vi 78), (0, vr 175)] [vi (dHigh 95232 ((sgR 0 sk rh mu t) i c)), vi (dHigh 95232 (((sgR 0 sk rh mu t) i c + (prB (sgB 0 sk rh mu t) (sgD 0 sk i) c)) % 8380417)), vi c, vr (254 + i.toNat)] (sD h K4 u_649)
                  refine aw_icmp_eq (tgt := 758) d_Mo_attempt_751 (by decide) (fun c_751 => ?_) (fun c_751 => ?_)
                  · skip
                    have fy : ¬ (sgF 0 sk rh mu t) (256 * i.toNat + c.toNat) = true := fun z => fat.1 z c_751
                    refine aw_iconst d_Mo_attempt_758 ⟨by decide, by decide⟩ ?_
                    refine ax_zast d_Mo_attempt_759 (kr_253 S (by omega)) (by omega) (by omega) (by rw [nr_253 S (by omega)]; omega) (by omega) ?_
                    refine aw_aload_n d_Mo_attempt_760 rfl rfl ?_
                    refine ax_getR (b := 253) d_Mo_attempt_761 fd_Mo_81 (k_175 S) (r_175_29 S) ?_
                    refine aw_iload d_Mo_attempt_764 rfl ?_
                    refine ax_aald (b := 254 + i.toNat) d_Mo_attempt_766 ⟨by rw [(k_253 S)]; decide, by rw [(k_253 S)]; decide⟩ (by omega) (by rw [n_253 S]; omega) (g_253 S (by omega) (by omega)) ?_
                    refine aw_iload d_Mo_attempt_767 rfl ?_
                    refine ax_zalde (x := 0) d_Mo_attempt_769 (kr_253 S (by omega)) (by omega) (by rw [nr_253 S (by omega)]; omega) (a_up_at) ?_
                    refine aw_if_eq (tgt := 776) d_Mo_attempt_770 (by decide) (fun c_770 => ?_) (fun c_770 => False.elim (by omega))
                    refine ax_iinc (lv' := [(6, vi (c + 1)), (4, vi 1), (7, vi (cen (prB (sgB 0 sk rh mu t) (sgD 0 sk i) c))), (5, vi i), (3, vi hn), (2, vi 78), (0, vr 175)]) d_Mo_attempt_776 rfl (by decide) ⟨(by omega), (by omega)⟩ rfl ?_
                    refine aw_goto (tgt := 655) d_Mo_attempt_779 (by decide) ?_
                    refine aw_sub (lv' := [(6, vi (c + 1)), (5, vi i), (4, vi 1), (3, vi hn), (2, vi 78), (0, vr 175)]) (by simp) ?_
                    exact ih_655 _ (by omega) (c + 1) hn 1 (a_up K4 (254 + i.toNat) c 0) (by omega) (F4.tr (FR.up (p := fun a => a = 252 ∨ 235 ≤ a ∧ a ≤ 242 ∨ 254 ≤ a ∧ a ≤ 261) (by omega)) (fun a x => ⟨x, x⟩)) (t4.tr (FR.up (p := fun a => a = 254 + i.toNat) rfl) (fun a x => ⟨x, x⟩)) (fun x a b => by by_cases z : x = c; exact (by rw [z, a_up_at, if_neg fy]); exact (by rw [a_up_ne (Or.inr z)]; exact w4 x a (by omega))) (by rw [eN, hIt_n fy]; exact e4) (⟨Or.inr rfl, fun z => absurd z (by decide), fun z => by have y := z.2 c hc4.1 (by omega); unfold cen at *; (repeat (first | omega | split at *))⟩) rfl
                  · skip
                    have fy : (sgF 0 sk rh mu t) (256 * i.toNat + c.toNat) = true := fat.2 c_751
                    refine aw_iconst d_Mo_attempt_754 ⟨by decide, by decide⟩ ?_
                    refine aw_goto (tgt := 759) d_Mo_attempt_755 (by decide) ?_
                    refine ax_zast d_Mo_attempt_759 (kr_253 S (by omega)) (by omega) (by omega) (by rw [nr_253 S (by omega)]; omega) (by omega) ?_
                    refine aw_aload_n d_Mo_attempt_760 rfl rfl ?_
                    refine ax_getR (b := 253) d_Mo_attempt_761 fd_Mo_81 (k_175 S) (r_175_29 S) ?_
                    refine aw_iload d_Mo_attempt_764 rfl ?_
                    refine ax_aald (b := 254 + i.toNat) d_Mo_attempt_766 ⟨by rw [(k_253 S)]; decide, by rw [(k_253 S)]; decide⟩ (by omega) (by rw [n_253 S]; omega) (g_253 S (by omega) (by omega)) ?_
                    refine aw_iload d_Mo_attempt_767 rfl ?_
                    refine ax_zalde (x := 1) d_Mo_attempt_769 (kr_253 S (by omega)) (by omega) (by rw [nr_253 S (by omega)]; omega) (a_up_at) ?_
                    refine aw_if_eq (tgt := 776) d_Mo_attempt_770 (by decide) (fun c_770 => False.elim (by omega)) (fun c_770 => ?_)
                    refine ax_iinc (lv' := [(3, vi (hn + 1)), (4, vi 1), (7, vi (cen (prB (sgB 0 sk rh mu t) (sgD 0 sk i) c))), (6, vi c), (5, vi i), (2, vi 78), (0, vr 175)]) d_Mo_attempt_773 rfl (by decide) ⟨(by omega), (by omega)⟩ rfl ?_
                    refine ax_iinc (lv' := [(6, vi (c + 1)), (3, vi (hn + 1)), (4, vi 1), (7, vi (cen (prB (sgB 0 sk rh mu t) (sgD 0 sk i) c))), (5, vi i), (2, vi 78), (0, vr 175)]) d_Mo_attempt_776 rfl (by decide) ⟨(by omega), (by omega)⟩ rfl ?_
                    refine aw_goto (tgt := 655) d_Mo_attempt_779 (by decide) ?_
                    refine aw_sub (lv' := [(6, vi (c + 1)), (5, vi i), (4, vi 1), (3, vi (hn + 1)), (2, vi 78), (0, vr 175)]) (by simp) ?_
                    exact ih_655 _ (by omega) (c + 1) (hn + 1) 1 (a_up K4 (254 + i.toNat) c 1) (by omega) (F4.tr (FR.up (p := fun a => a = 252 ∨ 235 ≤ a ∧ a ≤ 242 ∨ 254 ≤ a ∧ a ≤ 261) (by omega)) (fun a x => ⟨x, x⟩)) (t4.tr (FR.up (p := fun a => a = 254 + i.toNat) rfl) (fun a x => ⟨x, x⟩)) (fun x a b => by by_cases z : x = c; exact (by rw [z, a_up_at, if_pos fy]); exact (by rw [a_up_ne (Or.inr z)]; exact w4 x a (by omega))) (by rw [eN, hIt_y fy]; show hn + 1 = _ + 1; rw [e4]) (⟨Or.inr rfl, fun z => absurd z (by decide), fun z => by have y := z.2 c hc4.1 (by omega); unfold cen at *; (repeat (first | omega | split at *))⟩) rfl
          skip
          exact lp_655 _ 0 hn an3 (rowTo K3 252 256 (few (K3 251) (K3 (205 + (15 + i).toNat)))) (by omega) (F3.tr (FR.row (p := fun a => a = 252 ∨ 235 ≤ a ∧ a ≤ 242 ∨ 254 ≤ a ∧ a ≤ 261) (by omega) l2) (fun a x => ⟨x, x⟩)) (FR.rfl') (fun x a b => by omega) (e2) (⟨a3.1, fun z => ⟨z, fun x a b => by omega⟩, fun z => z.1⟩) rfl
        · skip
          have c1 := prB_in (B := (sgB 0 sk rh mu t)) (V := (sgV 0 sk (4 + i))) c hc.1 (by omega)
          have c2 := imF_in (A := sgA 0 sk) (V := fun j => fwd rt (sgM 0 rh (t * pL 0 + j))) (l := pL 0) (n := (pL 0).toNat) (m := i) c hc.1 (by omega)
          have c3 := cen_b c1
          have c2 : 0 ≤ (sgW 0 sk rh t) i c ∧ (sgW 0 sk rh t) i c < 8380417 := c2
          refine aw_aload_n d_Mo_attempt_529 rfl rfl ?_
          refine ax_getR (b := 204) d_Mo_attempt_530 fd_Mo_76 (k_175 S) (r_175_28 S) ?_
          refine aw_bipush d_Mo_attempt_533 ⟨by decide, by decide⟩ (by decide) ?_
          refine aw_iload d_Mo_attempt_535 rfl ?_
          refine ax_iadd d_Mo_attempt_537 ⟨(by omega), (by omega)⟩ ?_
          refine ax_aald (b := 205 + (30 + i).toNat) d_Mo_attempt_538 ⟨by rw [(k_204 S)]; decide, by rw [(k_204 S)]; decide⟩ (by omega) (by rw [n_204 S]; omega) (g_204 S (by omega) (by omega)) ?_
          refine aw_iload d_Mo_attempt_539 rfl ?_
          refine aw_aload_n d_Mo_attempt_541 rfl rfl ?_
          refine ax_getR (b := 204) d_Mo_attempt_542 fd_Mo_76 (k_175 S) (r_175_28 S) ?_
          refine aw_bipush d_Mo_attempt_545 ⟨by decide, by decide⟩ (by decide) ?_
          refine aw_iload d_Mo_attempt_547 rfl ?_
          refine ax_iadd d_Mo_attempt_549 ⟨(by omega), (by omega)⟩ ?_
          refine ax_aald (b := 205 + (30 + i).toNat) d_Mo_attempt_550 ⟨by rw [(k_204 S)]; decide, by rw [(k_204 S)]; decide⟩ (by omega) (by rw [n_204 S]; omega) (g_204 S (by omega) (by omega)) ?_
          refine aw_iload d_Mo_attempt_551 rfl ?_
          refine ax_ialde (x := (sgW 0 sk rh t) i c) d_Mo_attempt_553 (kr_204 S (by omega)) (by omega) (by rw [nr_204 S (by omega)]; omega) (r3.2 c (Int.le_refl _) (by omega)) ?_
          refine aw_aload_n d_Mo_attempt_554 rfl rfl ?_
          refine ax_getR (b := 204) d_Mo_attempt_555 fd_Mo_76 (k_175 S) (r_175_28 S) ?_
          refine aw_bipush d_Mo_attempt_558 ⟨by decide, by decide⟩ (by decide) ?_
          refine ax_aald (b := 252) d_Mo_attempt_560 ⟨by rw [(k_204 S)]; decide, by rw [(k_204 S)]; decide⟩ (by omega) (by rw [n_204 S]; omega) (g_204 S (j := 47) (by decide) (by decide)) ?_
          refine aw_iload d_Mo_attempt_561 rfl ?_
          refine ax_ialde (x := cen (prB (sgB 0 sk rh mu t) (sgV 0 sk (4 + i)) c)) d_Mo_attempt_563 (k_252 S) (by omega) (by rw [n_252 S]; omega) (p3 (by omega)) ?_
          refine ax_isub d_Mo_attempt_564 ⟨(by omega), (by omega)⟩ ?_
          refine aw_ldcw (n := 8380417) d_Mo_attempt_565 lc_Mo_264 ⟨by decide, by decide⟩ ?_
          refine ax_iadd d_Mo_attempt_568 ⟨(by omega), (by omega)⟩ ?_
          refine aw_ldcw (n := 8380417) d_Mo_attempt_569 lc_Mo_264 ⟨by decide, by decide⟩ ?_
          refine ax_irem d_Mo_attempt_572 (by omega) (by omega) ?_
          refine ax_ti (x := (sgR 0 sk rh mu t) i c) (by unfold sgR; rw [show pL 0 = 4 from rfl]; exact cen_s c1 c2) ?_
          refine ax_iast d_Mo_attempt_573 (kr_204 S (by omega)) (by omega) (by omega) (by rw [nr_204 S (by omega)]; omega) ?_
          refine aw_aload_n d_Mo_attempt_574 rfl rfl ?_
          refine aw_aload_n d_Mo_attempt_575 rfl rfl ?_
          refine ax_getR (b := 204) d_Mo_attempt_576 fd_Mo_76 (k_175 S) (r_175_28 S) ?_
          refine aw_bipush d_Mo_attempt_579 ⟨by decide, by decide⟩ (by decide) ?_
          refine aw_iload d_Mo_attempt_581 rfl ?_
          refine ax_iadd d_Mo_attempt_583 ⟨(by omega), (by omega)⟩ ?_
          refine ax_aald (b := 205 + (30 + i).toNat) d_Mo_attempt_584 ⟨by rw [(k_204 S)]; decide, by rw [(k_204 S)]; decide⟩ (by omega) (by rw [n_204 S]; omega) (g_204 S (by omega) (by omega)) ?_
          refine aw_iload d_Mo_attempt_585 rfl ?_
          refine ax_ialde (x := (sgR 0 sk rh mu t) i c) d_Mo_attempt_587 (kr_204 S (by omega)) (by omega) (by rw [nr_204 S (by omega)]; omega) (a_up_at) ?_
          refine ax_V (st := []) (as := [vi ((sgR 0 sk rh mu t) i c)]) (b := 175) (v := some (vi (dLow 95232 ((sgR 0 sk rh mu t) i c)))) (h' := sD h (a_up K3 (205 + (30 + i).toNat) c ((sgR 0 sk rh mu t) i c)) u_515) d_Mo_attempt_588 cs_Mo_attempt_588 (k_175 S) (by have z := c_Mo_low (l := l) (G := G) (L := u_515) (I := a_up K3 (205 + (30 + i).toNat) c ((sgR 0 sk rh mu t) i c)) (r := (sgR 0 sk rh mu t) i c) S (by rw [a_up_ne (Or.inl (by omega)), gp3]; decide) (sgR_in c hc.1 (by omega)); rw [a_up_ne (Or.inl (by omega)), gp3] at z; exact z) rfl rfl rfl ?_
          show AW l G M_Mo_attempt P 591 [(6, vi c), (5, vi i), (4, vi an3), (3, vi hn), (2, vi 78), (0, vr 175)] [vi (dLow 95232 ((sgR 0 sk rh mu t) i c))] (sD h (a_up K3 (205 + (30 + i).toNat) c ((sgR 0 sk rh mu t) i c)) u_515)
          refine aw_istore (lv' := [(7, vi (dLow 95232 ((sgR 0 sk rh mu t) i c))), (6, vi c), (5, vi i), (4, vi an3), (3, vi hn), (2, vi 78), (0, vr 175)]) d_Mo_attempt_591 (by decide) rfl ?_
          refine aw_iload d_Mo_attempt_593 rfl ?_
          refine aw_aload_n d_Mo_attempt_595 rfl rfl ?_
          refine ax_getIe (x := 95232) d_Mo_attempt_596 fd_Mo_242 (k_175 S) (Eq.trans (a_up_ne (Or.inl (by omega))) (Eq.trans (F3.1 175 36 (by omega) (Or.inr (by decide))) (dr0_36 D))) ?_
          refine aw_iload_n d_Mo_attempt_599 rfl rfl ?_
          refine ax_isub d_Mo_attempt_600 ⟨(by omega), (by omega)⟩ ?_
          refine ax_ti (x := 95154) (by decide) ?_
          refine aw_icmp_ge (tgt := 615) d_Mo_attempt_601 (by decide) (fun c_601 => ?_) (fun c_601 => ?_)
          · skip
            refine aw_iconst d_Mo_attempt_615 ⟨by decide, by decide⟩ ?_
            refine aw_istore (lv' := [(4, vi 1), (7, vi (dLow 95232 ((sgR 0 sk rh mu t) i c))), (6, vi c), (5, vi i), (3, vi hn), (2, vi 78), (0, vr 175)]) d_Mo_attempt_616 (by decide) rfl ?_
            refine ax_iinc (lv' := [(6, vi (c + 1)), (4, vi 1), (7, vi (dLow 95232 ((sgR 0 sk rh mu t) i c))), (5, vi i), (3, vi hn), (2, vi 78), (0, vr 175)]) d_Mo_attempt_618 rfl (by decide) ⟨(by omega), (by omega)⟩ rfl ?_
            refine aw_goto (tgt := 521) d_Mo_attempt_621 (by decide) ?_
            refine aw_sub (lv' := [(6, vi (c + 1)), (5, vi i), (4, vi 1), (3, vi hn), (2, vi 78), (0, vr 175)]) (by simp) ?_
            exact ih_521 _ (by omega) (c + 1) 1 (a_up K3 (205 + (30 + i).toNat) c ((sgR 0 sk rh mu t) i c)) (by omega) (F3.tr (FR.up (p := fun a => a = 252 ∨ 235 ≤ a ∧ a ≤ 242 ∨ 254 ≤ a ∧ a ≤ 261) (by omega)) (fun a x => ⟨x, x⟩)) (t3.tr (FR.up (p := fun a => a = 205 + (30 + i).toNat) rfl) (fun a x => ⟨x, x⟩)) (⟨fun x a b => by by_cases z : x = c; exact (by rw [z, a_up_at]); exact (by rw [a_up_ne (Or.inr z)]; exact r3.1 x a (by omega)), fun x a b => by rw [a_up_ne (Or.inr (by omega))]; exact r3.2 x (by omega) b⟩) (⟨Or.inr rfl, fun z => absurd z (by decide), fun z => by have := z.2 c hc.1 (by omega); omega⟩) rfl
          · skip
            refine aw_iload d_Mo_attempt_604 rfl ?_
            refine aw_iload_n d_Mo_attempt_606 rfl rfl ?_
            refine aw_aload_n d_Mo_attempt_607 rfl rfl ?_
            refine ax_getIe (x := 95232) d_Mo_attempt_608 fd_Mo_242 (k_175 S) (Eq.trans (a_up_ne (Or.inl (by omega))) (Eq.trans (F3.1 175 36 (by omega) (Or.inr (by decide))) (dr0_36 D))) ?_
            refine ax_isub d_Mo_attempt_611 ⟨(by omega), (by omega)⟩ ?_
            refine ax_ti (x := -95154) (by decide) ?_
            refine aw_icmp_gt (tgt := 618) d_Mo_attempt_612 (by decide) (fun c_612 => ?_) (fun c_612 => ?_)
            · skip
              refine ax_iinc (lv' := [(6, vi (c + 1)), (7, vi (dLow 95232 ((sgR 0 sk rh mu t) i c))), (5, vi i), (4, vi an3), (3, vi hn), (2, vi 78), (0, vr 175)]) d_Mo_attempt_618 rfl (by decide) ⟨(by omega), (by omega)⟩ rfl ?_
              refine aw_goto (tgt := 521) d_Mo_attempt_621 (by decide) ?_
              refine aw_sub (lv' := [(6, vi (c + 1)), (5, vi i), (4, vi an3), (3, vi hn), (2, vi 78), (0, vr 175)]) (by simp) ?_
              exact ih_521 _ (by omega) (c + 1) an3 (a_up K3 (205 + (30 + i).toNat) c ((sgR 0 sk rh mu t) i c)) (by omega) (F3.tr (FR.up (p := fun a => a = 252 ∨ 235 ≤ a ∧ a ≤ 242 ∨ 254 ≤ a ∧ a ≤ 261) (by omega)) (fun a x => ⟨x, x⟩)) (t3.tr (FR.up (p := fun a => a = 205 + (30 + i).toNat) rfl) (fun a x => ⟨x, x⟩)) (⟨fun x a b => by by_cases z : x = c; exact (by rw [z, a_up_at]); exact (by rw [a_up_ne (Or.inr z)]; exact r3.1 x a (by omega)), fun x a b => by rw [a_up_ne (Or.inr (by omega))]; exact r3.2 x (by omega) b⟩) (⟨a3.1, fun z => ⟨(a3.2.1 z).1, fun x a b => by by_cases y : x = c; exact (by rw [y]; omega); exact (a3.2.1 z).2 x a (by omega)⟩, fun z => a3.2.2 ⟨z.1, fun x a b => z.2 x a (by omega)⟩⟩) rfl
            · skip
              refine aw_iconst d_Mo_attempt_615 ⟨by decide, by decide⟩ ?_
              refine aw_istore (lv' := [(4, vi 1), (7, vi (dLow 95232 ((sgR 0 sk rh mu t) i c))), (6, vi c), (5, vi i), (3, vi hn), (2, vi 78), (0, vr 175)]) d_Mo_attempt_616 (by decide) rfl ?_
              refine ax_iinc (lv' := [(6, vi (c + 1)), (4, vi 1), (7, vi (dLow 95232 ((sgR 0 sk rh mu t) i c))), (5, vi i), (3, vi hn), (2, vi 78), (0, vr 175)]) d_Mo_attempt_618 rfl (by decide) ⟨(by omega), (by omega)⟩ rfl ?_
              refine aw_goto (tgt := 521) d_Mo_attempt_621 (by decide) ?_
              refine aw_sub (lv' := [(6, vi (c + 1)), (5, vi i), (4, vi 1), (3, vi hn), (2, vi 78), (0, vr 175)]) (by simp) ?_
              exact ih_521 _ (by omega) (c + 1) 1 (a_up K3 (205 + (30 + i).toNat) c ((sgR 0 sk rh mu t) i c)) (by omega) (F3.tr (FR.up (p := fun a => a = 252 ∨ 235 ≤ a ∧ a ≤ 242 ∨ 254 ≤ a ∧ a ≤ 261) (by omega)) (fun a x => ⟨x, x⟩)) (t3.tr (FR.up (p := fun a => a = 205 + (30 + i).toNat) rfl) (fun a x => ⟨x, x⟩)) (⟨fun x a b => by by_cases z : x = c; exact (by rw [z, a_up_at]); exact (by rw [a_up_ne (Or.inr z)]; exact r3.1 x a (by omega)), fun x a b => by rw [a_up_ne (Or.inr (by omega))]; exact r3.2 x (by omega) b⟩) (⟨Or.inr rfl, fun z => absurd z (by decide), fun z => by have := z.2 c hc.1 (by omega); omega⟩) rfl
      skip
      exact lp_521 _ 0 an (rowTo K2 252 256 (few (K2 251) (K2 (205 + (4 + i).toNat)))) (by omega) (F2.tr (FR.row (p := fun a => a = 252 ∨ 235 ≤ a ∧ a ≤ 242 ∨ 254 ≤ a ∧ a ≤ 261) (by omega) l1) (fun a x => ⟨x, x⟩)) (FR.rfl') (⟨fun x a b => by omega, fun x a b => by rw [rowTo_ne (by omega)]; exact td i hi.1 (Int.le_refl _) (by omega) x a b⟩) (⟨a2.1, fun z => ⟨z, fun x a b => by omega⟩, fun z => z.1⟩) rfl
  skip
  exact lp_479 _ 0 0 0 K M (by omega) (FR.rfl') (fun m a b => by omega) (fun m a b => hW m a) (fun m a b => by omega) (rfl) (⟨Or.inl rfl, fun _ m a b => by omega, fun _ => rfl⟩) rfl
set_option maxHeartbeats 4000000 in
set_option maxRecDepth 100000 in
theorem aF1 {l : Launch} {G : a_G} {P : a_R → Hp → Prop} {h : Hp} {K0 M0 K M : Nat → Int → Int} {sk rh mu : Int → Int} {t : Int} (S : Shp h) (D0 : RD K0 M0 1) (hk0 : HR K0 180 0 4032 sk) (km : ∀ x, sk x % 256 = sk x) (hr0 : HR K0 266 0 64 rh) (rm0 : ∀ x, rh x % 256 = rh x) (hm0 : HR K0 265 0 64 mu) (mm0 : ∀ x, mu x % 256 = mu x) (hS0 : ∀ m, 0 ≤ m → m < 11 → eqQ (K0 (205 + m.toNat)) (sgSs 1 sk m)) (hD0 : ∀ m, 0 ≤ m → m < 6 → eqQ (K0 (205 + (15 + m).toNat)) (sgDs 1 sk m)) (ht : 0 ≤ t ∧ t < 814) (F0 : FR pAt K0 M0 K M) (okk : (sgOk 1 sk ∧ bll 49 (sgBs 1 sk rh mu t) ≠ none)) (gd : (sgGood 1 sk rh mu t)) (hch : HR K 267 0 48 (sgC 1 sk rh mu t)) (hz : ∀ m, 0 ≤ m → m < 5 → ∀ j, 0 ≤ j → j < 256 → 524288 - K (205 + (23 + m).toNat) j = (524288 - (sgZ 1 sk rh mu t) m j) % 8380417) (hh : ∀ m : Int, 0 ≤ m → m < 6 → ∀ j : Int, 0 ≤ j → j < 256 → K (254 + m.toNat) j = (if (sgF 1 sk rh mu t) (256 * m.toNat + j.toNat) = true then 1 else 0)) (hP : ∀ r_ h2_, RaR h K0 M0 pAt (sgOk 1 sk ∧ bll 49 (sgBs 1 sk rh mu t) ≠ none) (sgGood 1 sk rh mu t) 3309 (sgPk 1 sk rh mu t) r_ h2_ → P r_ h2_) : AW l G M_Mo_attempt P 803 [(0, vr 175)] [] (sD h K M) := by
  have D := D0.fr F0 (by decide)
  have gw : (hIt (sgF 1 sk rh mu t) 1536).1 ≤ 55 := gd.2.2.2
  refine aw_aload_n d_Mo_attempt_803 rfl rfl ?_
  refine ax_getR (b := 267) d_Mo_attempt_804 fd_Mo_99 (k_175 S) (r_175_43 S) ?_
  refine aw_iconst d_Mo_attempt_807 ⟨by decide, by decide⟩ ?_
  refine aw_aload_n d_Mo_attempt_808 rfl rfl ?_
  refine ax_getR (b := 263) d_Mo_attempt_809 fd_Mo_87 (k_175 S) (r_175_31 S) ?_
  refine aw_iconst d_Mo_attempt_812 ⟨by decide, by decide⟩ ?_
  refine aw_aload_n d_Mo_attempt_813 rfl rfl ?_
  refine ax_getIe (x := 48) d_Mo_attempt_814 fd_Mo_248 (k_175 S) (dr1_38 D) ?_
  refine ax_S (st := []) (as := [vr 267, vi 0, vr 263, vi 0, vi 48]) (v := none) (h' := sD h (putRow K 263 0 48 (fun k => K 267 (0 + k))) M) d_Mo_attempt_817 cs_Mo_attempt_817 (c_Mo_move ⟨k_267 S, by decide⟩ ⟨k_263 S, by decide, trivial⟩ (by decide) (by rw [n_267 S, n_263 S]; omega)) rfl rfl rfl ?_
  show AW l G M_Mo_attempt P 820 [(0, vr 175)] [] (sD h (putRow K 263 0 48 (fun k => K 267 (0 + k))) M)
  refine aw_aload_n d_Mo_attempt_820 rfl rfl ?_
  refine aw_iconst d_Mo_attempt_821 ⟨by decide, by decide⟩ ?_
  refine ax_putI d_Mo_attempt_822 fd_Mo_216 (k_175 S) (by decide) rfl ?_
  refine aw_iconst d_Mo_attempt_825 ⟨by decide, by decide⟩ ?_
  refine aw_istore (lv' := [(5, vi 0), (0, vr 175)]) d_Mo_attempt_826 (by decide) rfl ?_
  have lp_828 : ∀ (n_ : Nat) (i : Int) (K2 : Nat → Int → Int), (0 ≤ i ∧ i ≤ 5) → (FR (fun a => a = 263) K M K2 M) → (K2 175 23 = 8 * (640 * i)) → (HR K2 263 0 (48 + 640 * i) (sgPk 1 sk rh mu t)) → ((5 - i).toNat) = n_ → AW l G M_Mo_attempt P 828 [(5, vi i), (0, vr 175)] [] (sD h K2 M) := by
    intro n_
    induction n_ using Nat.strongRecOn with
    | _ n_ ih_828 =>
    intro i K2 hi F2 b2 h2 hm_828
    refine aw_iload d_Mo_attempt_828 rfl ?_
    refine aw_aload_n d_Mo_attempt_830 rfl rfl ?_
    refine ax_getIe (x := 5) d_Mo_attempt_831 fd_Mo_226 (k_175 S) (Eq.trans (F2.1 175 32 (by omega) (Or.inr (by decide))) (dr1_32 D)) ?_
    refine aw_icmp_ge (tgt := 873) d_Mo_attempt_834 (by decide) (fun c_834 => ?_) (fun c_834 => ?_)
    · skip
      refine aw_aload_n d_Mo_attempt_873 rfl rfl ?_
      refine ax_getIe (x := 48) d_Mo_attempt_874 fd_Mo_248 (k_175 S) (Eq.trans (F2.1 175 38 (by omega) (Or.inr (by decide))) (dr1_38 D)) ?_
      refine aw_bipush d_Mo_attempt_877 ⟨by decide, by decide⟩ (by decide) ?_
      refine aw_aload_n d_Mo_attempt_879 rfl rfl ?_
      refine ax_getIe (x := 5) d_Mo_attempt_880 fd_Mo_226 (k_175 S) (Eq.trans (F2.1 175 32 (by omega) (Or.inr (by decide))) (dr1_32 D)) ?_
      refine ax_imul d_Mo_attempt_883 ⟨(by omega), (by omega)⟩ ?_
      refine ax_ti (x := 160) (by decide) ?_
      refine aw_aload_n d_Mo_attempt_884 rfl rfl ?_
      refine ax_getIe (x := 20) d_Mo_attempt_885 fd_Mo_251 (k_175 S) (Eq.trans (F2.1 175 39 (by omega) (Or.inr (by decide))) (dr1_39 D)) ?_
      refine ax_imul d_Mo_attempt_888 ⟨(by omega), (by omega)⟩ ?_
      refine ax_ti (x := 3200) (by decide) ?_
      refine ax_iadd d_Mo_attempt_889 ⟨(by omega), (by omega)⟩ ?_
      refine ax_ti (x := 3248) (by decide) ?_
      refine aw_istore (lv' := [(5, vi 3248), (0, vr 175)]) d_Mo_attempt_890 (by decide) rfl ?_
      refine aw_iconst d_Mo_attempt_892 ⟨by decide, by decide⟩ ?_
      refine aw_istore (lv' := [(6, vi 0), (5, vi 3248), (0, vr 175)]) d_Mo_attempt_893 (by decide) rfl ?_
      refine aw_iconst d_Mo_attempt_895 ⟨by decide, by decide⟩ ?_
      refine aw_istore (lv' := [(7, vi 0), (6, vi 0), (5, vi 3248), (0, vr 175)]) d_Mo_attempt_896 (by decide) rfl ?_
      have lp_898 : ∀ (n_ : Nat) (i : Int) (K3 : Nat → Int → Int), (0 ≤ i ∧ i ≤ 55) → (FR (fun a => a = 263) K M K3 M) → (HR K3 263 0 3248 (sgPk 1 sk rh mu t)) → (∀ x, 0 ≤ x → x < i → K3 263 (3248 + x) = 0) → ((55 - i).toNat) = n_ → AW l G M_Mo_attempt P 898 [(7, vi i), (6, vi 0), (5, vi 3248), (0, vr 175)] [] (sD h K3 M) := by
        intro n_
        induction n_ using Nat.strongRecOn with
        | _ n_ ih_898 =>
        intro i K3 hi3 F3 h3 z3 hm_898
        refine aw_iload d_Mo_attempt_898 rfl ?_
        refine aw_aload_n d_Mo_attempt_900 rfl rfl ?_
        refine ax_getIe (x := 55) d_Mo_attempt_901 fd_Mo_245 (k_175 S) (Eq.trans (F3.1 175 37 (by omega) (Or.inr (by decide))) (dr1_37 D)) ?_
        refine aw_icmp_ge (tgt := 924) d_Mo_attempt_904 (by decide) (fun c_904 => ?_) (fun c_904 => ?_)
        · skip
          refine aw_iconst d_Mo_attempt_924 ⟨by decide, by decide⟩ ?_
          refine aw_istore (lv' := [(7, vi 0), (6, vi 0), (5, vi 3248), (0, vr 175)]) d_Mo_attempt_925 (by decide) rfl ?_
          have lp_927 : ∀ (n_ : Nat) (i : Int) (nn : Int) (K4 : Nat → Int → Int), (0 ≤ i ∧ i ≤ 6) → (FR (fun a => a = 263) K M K4 M) → (HR K4 263 0 3248 (sgPk 1 sk rh mu t)) → (nn = (hIt (sgF 1 sk rh mu t) (256 * i.toNat + (0 : Int).toNat)).1) → ((∀ x, 0 ≤ x → x < nn → K4 263 (3248 + x) % 256 = (hIt (sgF 1 sk rh mu t) (256 * i.toNat + (0 : Int).toNat)).2 x) ∧ (∀ x, nn ≤ x → x < 55 → K4 263 (3248 + x) = 0)) → (∀ m, 0 ≤ m → m < i → K4 263 (3303 + m) % 256 = (hIt (sgF 1 sk rh mu t) (256 * m.toNat + 256)).1) → ((6 - i).toNat) = n_ → AW l G M_Mo_attempt P 927 [(7, vi i), (6, vi nn), (5, vi 3248), (0, vr 175)] [] (sD h K4 M) := by
            intro n_
            induction n_ using Nat.strongRecOn with
            | _ n_ ih_927 =>
            intro i nn K4 hi4 F4 h4 e4 z4 n4 hm_927
            refine aw_iload d_Mo_attempt_927 rfl ?_
            refine aw_aload_n d_Mo_attempt_929 rfl rfl ?_
            refine ax_getIe (x := 6) d_Mo_attempt_930 fd_Mo_223 (k_175 S) (Eq.trans (F4.1 175 26 (by omega) (Or.inr (by decide))) (dr1_26 D)) ?_
            refine aw_icmp_ge (tgt := 1006) d_Mo_attempt_933 (by decide) (fun c_933 => ?_) (fun c_933 => ?_)
            · skip
              refine aw_iconst d_Mo_attempt_1006 ⟨by decide, by decide⟩ ?_
              exact aw_iret d_Mo_attempt_1007 rfl (hP _ _ ⟨_, K4, M, rfl, rfl, F0.tr F4 (by intro a x; exact ⟨x, by have x2 := x; show ¬ a = 263; intro z; exact x (by omega)⟩), Or.inr (Or.inr ⟨rfl, okk, gd, fun z x y => by by_cases v1 : z < 3248; exact h4 z x v1; rw [show sgPk 1 sk rh mu t z = pcB1 (sgC 1 sk rh mu t) (sgZ 1 sk rh mu t) (sgF 1 sk rh mu t) z from rfl]; unfold pcB1; rw [if_neg (by omega), if_neg (by omega)]; by_cases v2 : z < 3303; exact (by rw [if_pos v2]; have eC : (hIt (sgF 1 sk rh mu t) (256 * i.toNat + (0 : Int).toNat)) = hIt (sgF 1 sk rh mu t) 1536 := (by rw [show 256 * i.toNat + (0 : Int).toNat = 1536 by omega]); rw [eC] at z4 e4; by_cases v3 : z - 3248 < (hIt (sgF 1 sk rh mu t) 1536).1; exact (by rw [if_pos v3]; have q_ := z4.1 (z - 3248) (by omega) (by omega); rwa [show (3248 + (z - 3248) : Int) = 0 + z by omega] at q_); exact (by rw [if_neg v3]; have q_ := z4.2 (z - 3248) (by omega) (by omega); rw [show (3248 + (z - 3248) : Int) = 0 + z by omega] at q_; rw [q_]; rfl)); exact (by rw [if_neg v2]; have q_ := n4 (z - 3303) (by omega) (by omega); rwa [show (3303 + (z - 3303) : Int) = 0 + z by omega] at q_)⟩)⟩)
            · skip
              refine aw_iconst d_Mo_attempt_936 ⟨by decide, by decide⟩ ?_
              refine aw_istore (lv' := [(8, vi 0), (7, vi i), (6, vi nn), (5, vi 3248), (0, vr 175)]) d_Mo_attempt_937 (by decide) rfl ?_
              have lp_939 : ∀ (n_ : Nat) (c : Int) (nn : Int) (K5 : Nat → Int → Int), (0 ≤ c ∧ c ≤ 256) → (FR (fun a => a = 263) K M K5 M) → (HR K5 263 0 3248 (sgPk 1 sk rh mu t)) → (nn = (hIt (sgF 1 sk rh mu t) (256 * i.toNat + c.toNat)).1) → ((∀ x, 0 ≤ x → x < nn → K5 263 (3248 + x) % 256 = (hIt (sgF 1 sk rh mu t) (256 * i.toNat + c.toNat)).2 x) ∧ (∀ x, nn ≤ x → x < 55 → K5 263 (3248 + x) = 0)) → (∀ m, 0 ≤ m → m < i → K5 263 (3303 + m) % 256 = (hIt (sgF 1 sk rh mu t) (256 * m.toNat + 256)).1) → ((256 - c).toNat) = n_ → AW l G M_Mo_attempt P 939 [(8, vi c), (7, vi i), (6, vi nn), (5, vi 3248), (0, vr 175)] [] (sD h K5 M) := by
                intro n_
                induction n_ using Nat.strongRecOn with
                | _ n_ ih_939 =>
                intro c nn K5 hc F5 h5 e5 z5 n5 hm_939
                have hq : c < 256 → K5 (254 + i.toNat) c = (if (sgF 1 sk rh mu t) (256 * i.toNat + c.toNat) = true then 1 else 0) := fun v => by rw [F5.1 _ _ (by omega) (Or.inl (by omega))]; exact hh i hi4.1 (by omega) c hc.1 v
                have m0 := hIt_0 (fl := (sgF 1 sk rh mu t)) (256 * i.toNat + c.toNat)
                have m1 := hIt_mono (fl := (sgF 1 sk rh mu t)) (a := 256 * i.toNat + c.toNat) (b := 1536) (by omega)
                refine aw_iload d_Mo_attempt_939 rfl ?_
                refine aw_sipush d_Mo_attempt_941 ⟨by decide, by decide⟩ (by decide) ?_
                refine aw_icmp_ge (tgt := 982) d_Mo_attempt_944 (by decide) (fun c_944 => ?_) (fun c_944 => ?_)
                · skip
                  refine aw_aload_n d_Mo_attempt_982 rfl rfl ?_
                  refine ax_getR (b := 263) d_Mo_attempt_983 fd_Mo_87 (k_175 S) (r_175_31 S) ?_
                  refine aw_iload d_Mo_attempt_986 rfl ?_
                  refine aw_aload_n d_Mo_attempt_988 rfl rfl ?_
                  refine ax_getIe (x := 55) d_Mo_attempt_989 fd_Mo_245 (k_175 S) (Eq.trans (F5.1 175 37 (by omega) (Or.inr (by decide))) (dr1_37 D)) ?_
                  refine ax_iadd d_Mo_attempt_992 ⟨(by omega), (by omega)⟩ ?_
                  refine ax_ti (x := 3303) (by decide) ?_
                  refine aw_iload d_Mo_attempt_993 rfl ?_
                  refine ax_iadd d_Mo_attempt_995 ⟨(by omega), (by omega)⟩ ?_
                  refine aw_iload d_Mo_attempt_996 rfl ?_
                  refine aw_i2b d_Mo_attempt_998 ?_
                  refine ax_bast d_Mo_attempt_999 (k_263 S) (by decide) (by omega) (by rw [n_263 S]; omega) ?_
                  refine ax_iinc (lv' := [(7, vi (i + 1)), (8, vi c), (6, vi nn), (5, vi 3248), (0, vr 175)]) d_Mo_attempt_1000 rfl (by decide) ⟨(by omega), (by omega)⟩ rfl ?_
                  refine aw_goto (tgt := 927) d_Mo_attempt_1003 (by decide) ?_
                  refine aw_sub (lv' := [(7, vi (i + 1)), (6, vi nn), (5, vi 3248), (0, vr 175)]) (by simp) ?_
                  exact ih_927 _ (by omega) (i + 1) nn (a_up K5 263 (3303 + i) (a_w8 (a_w8 nn))) (by omega) (F5.tr (FR.up (p := fun a => a = 263) rfl) (fun a x => ⟨x, x⟩)) (fun z x y => by rw [a_up_ne (Or.inr (by omega))]; exact h5 z x y) (e5.trans (by rw [show 256 * i.toNat + c.toNat = 256 * (i + 1).toNat + (0 : Int).toNat by omega])) (⟨fun x a b => by rw [a_up_ne (Or.inr (by omega)), z5.1 x a b, show 256 * i.toNat + c.toNat = 256 * (i + 1).toNat + (0 : Int).toNat by omega], fun x a b => by rw [a_up_ne (Or.inr (by omega))]; exact z5.2 x a b⟩) (fun m a b => by by_cases v : m = i; exact (by rw [v, show (3303 + i : Int) = 3248 + 55 + i by omega, a_up_at, a_w8w8, a_m8w, e5, show 256 * i.toNat + c.toNat = 256 * i.toNat + 256 by omega]; have n1 := hIt_0 (fl := (sgF 1 sk rh mu t)) (256 * i.toNat + 256); have n2 := hIt_mono (fl := (sgF 1 sk rh mu t)) (a := 256 * i.toNat + 256) (b := 1536) (by omega); omega); exact (by rw [a_up_ne (Or.inr (by omega))]; exact n5 m a (by omega))) rfl
                · skip
                  refine aw_aload_n d_Mo_attempt_947 rfl rfl ?_
                  refine ax_getR (b := 253) d_Mo_attempt_948 fd_Mo_81 (k_175 S) (r_175_29 S) ?_
                  refine aw_iload d_Mo_attempt_951 rfl ?_
                  refine ax_aald (b := 254 + i.toNat) d_Mo_attempt_953 ⟨by rw [(k_253 S)]; decide, by rw [(k_253 S)]; decide⟩ (by omega) (by rw [n_253 S]; omega) (g_253 S (by omega) (by omega)) ?_
                  refine aw_iload d_Mo_attempt_954 rfl ?_
                  refine ax_zalde (x := (if (sgF 1 sk rh mu t) (256 * i.toNat + c.toNat) = true then 1 else 0)) d_Mo_attempt_956 (kr_253 S (by omega)) (by omega) (by rw [nr_253 S (by omega)]; omega) (hq (by omega)) ?_
                  refine aw_if_eq (tgt := 976) d_Mo_attempt_957 (by decide) (fun c_957 => ?_) (fun c_957 => ?_)
                  · skip
                    have fy : ¬ (sgF 1 sk rh mu t) (256 * i.toNat + c.toNat) = true := fun z => by rw [if_pos z] at c_957; exact absurd c_957 (by decide)
                    have eN : 256 * i.toNat + (c + 1).toNat = (256 * i.toNat + c.toNat) + 1 := by omega
                    refine ax_iinc (lv' := [(8, vi (c + 1)), (7, vi i), (6, vi nn), (5, vi 3248), (0, vr 175)]) d_Mo_attempt_976 rfl (by decide) ⟨(by omega), (by omega)⟩ rfl ?_
                    refine aw_goto (tgt := 939) d_Mo_attempt_979 (by decide) ?_
                    exact ih_939 _ (by omega) (c + 1) nn K5 (by omega) (F5) (h5) (by rw [eN, hIt_n fy]; exact e5) (by rw [eN, hIt_n fy]; exact z5) (n5) rfl
                  · skip
                    have fy : (sgF 1 sk rh mu t) (256 * i.toNat + c.toNat) = true := Classical.byContradiction (fun z => c_957 (if_neg z))
                    have eN : 256 * i.toNat + (c + 1).toNat = (256 * i.toNat + c.toNat) + 1 := by omega
                    have m2 := hIt_mono (fl := (sgF 1 sk rh mu t)) (a := 256 * i.toNat + c.toNat + 1) (b := 1536) (by omega)
                    rw [hIt_y fy] at m2
                    have m3 : (hIt (sgF 1 sk rh mu t) (256 * i.toNat + c.toNat)).1 + 1 ≤ (hIt (sgF 1 sk rh mu t) 1536).1 := m2
                    refine aw_aload_n d_Mo_attempt_960 rfl rfl ?_
                    refine ax_getR (b := 263) d_Mo_attempt_961 fd_Mo_87 (k_175 S) (r_175_31 S) ?_
                    refine aw_iload d_Mo_attempt_964 rfl ?_
                    refine aw_iload d_Mo_attempt_966 rfl ?_
                    refine ax_iadd d_Mo_attempt_968 ⟨(by omega), (by omega)⟩ ?_
                    refine aw_iload d_Mo_attempt_969 rfl ?_
                    refine aw_i2b d_Mo_attempt_971 ?_
                    refine ax_bast d_Mo_attempt_972 (k_263 S) (by decide) (by omega) (by rw [n_263 S]; omega) ?_
                    refine ax_iinc (lv' := [(6, vi (nn + 1)), (8, vi c), (7, vi i), (5, vi 3248), (0, vr 175)]) d_Mo_attempt_973 rfl (by decide) ⟨(by omega), (by omega)⟩ rfl ?_
                    refine ax_iinc (lv' := [(8, vi (c + 1)), (6, vi (nn + 1)), (7, vi i), (5, vi 3248), (0, vr 175)]) d_Mo_attempt_976 rfl (by decide) ⟨(by omega), (by omega)⟩ rfl ?_
                    refine aw_goto (tgt := 939) d_Mo_attempt_979 (by decide) ?_
                    refine aw_sub (lv' := [(8, vi (c + 1)), (7, vi i), (6, vi (nn + 1)), (5, vi 3248), (0, vr 175)]) (by simp) ?_
                    exact ih_939 _ (by omega) (c + 1) (nn + 1) (a_up K5 263 (3248 + nn) (a_w8 (a_w8 c))) (by omega) (F5.tr (FR.up (p := fun a => a = 263) rfl) (fun a x => ⟨x, x⟩)) (fun z x y => by rw [a_up_ne (Or.inr (by omega))]; exact h5 z x y) (by rw [eN, hIt_y fy]; show nn + 1 = _ + 1; rw [e5]) (⟨fun x a b => by rw [eN, hIt_y fy]; show _ = (if x = (hIt (sgF 1 sk rh mu t) (256 * i.toNat + c.toNat)).1 then (((256 * i.toNat + c.toNat) % 256 : Nat) : Int) else (hIt (sgF 1 sk rh mu t) (256 * i.toNat + c.toNat)).2 x); by_cases v : x = nn; exact (by rw [v, a_up_at, a_w8w8, a_m8w, if_pos e5]; omega); exact (by rw [a_up_ne (Or.inr (by omega)), if_neg (by omega)]; exact z5.1 x a (by omega)), fun x a b => by rw [a_up_ne (Or.inr (by omega))]; exact z5.2 x (by omega) b⟩) (fun m a b => by rw [a_up_ne (Or.inr (by omega))]; exact n5 m a b) rfl
              skip
              exact lp_939 _ 0 nn K4 (by omega) (F4) (h4) (e4) (z4) (n4) rfl
          skip
          exact lp_927 _ 0 0 K3 (by omega) (F3) (h3) (rfl) (⟨fun x a b => by omega, fun x a b => z3 x (by omega) (by omega)⟩) (fun m a b => by omega) rfl
        · skip
          refine aw_aload_n d_Mo_attempt_907 rfl rfl ?_
          refine ax_getR (b := 263) d_Mo_attempt_908 fd_Mo_87 (k_175 S) (r_175_31 S) ?_
          refine aw_iload d_Mo_attempt_911 rfl ?_
          refine aw_iload d_Mo_attempt_913 rfl ?_
          refine ax_iadd d_Mo_attempt_915 ⟨(by omega), (by omega)⟩ ?_
          refine aw_iconst d_Mo_attempt_916 ⟨by decide, by decide⟩ ?_
          refine ax_bast d_Mo_attempt_917 (k_263 S) (by decide) (by omega) (by rw [n_263 S]; omega) ?_
          refine ax_iinc (lv' := [(7, vi (i + 1)), (6, vi 0), (5, vi 3248), (0, vr 175)]) d_Mo_attempt_918 rfl (by decide) ⟨(by omega), (by omega)⟩ rfl ?_
          refine aw_goto (tgt := 898) d_Mo_attempt_921 (by decide) ?_
          exact ih_898 _ (by omega) (i + 1) (a_up K3 263 (3248 + i) (a_w8 0)) (by omega) (F3.tr (FR.up (p := fun a => a = 263) rfl) (fun a x => ⟨x, x⟩)) (fun z x y => by rw [a_up_ne (Or.inr (by omega))]; exact h3 z x y) (fun x a b => by by_cases v : x = i; exact (by rw [v, a_up_at]; decide); exact (by rw [a_up_ne (Or.inr (by omega))]; exact z3 x a (by omega))) rfl
      skip
      exact lp_898 _ 0 K2 (by omega) (F2) (h2.cut (by omega)) (fun x a b => by omega) rfl
    · skip
      refine aw_aload_n d_Mo_attempt_837 rfl rfl ?_
      refine aw_aload_n d_Mo_attempt_838 rfl rfl ?_
      refine ax_getR (b := 263) d_Mo_attempt_839 fd_Mo_87 (k_175 S) (r_175_31 S) ?_
      refine aw_aload_n d_Mo_attempt_842 rfl rfl ?_
      refine ax_getIe (x := 48) d_Mo_attempt_843 fd_Mo_248 (k_175 S) (Eq.trans (F2.1 175 38 (by omega) (Or.inr (by decide))) (dr1_38 D)) ?_
      refine aw_aload_n d_Mo_attempt_846 rfl rfl ?_
      refine ax_getR (b := 204) d_Mo_attempt_847 fd_Mo_76 (k_175 S) (r_175_28 S) ?_
      refine aw_bipush d_Mo_attempt_850 ⟨by decide, by decide⟩ (by decide) ?_
      refine aw_iload d_Mo_attempt_852 rfl ?_
      refine ax_iadd d_Mo_attempt_854 ⟨(by omega), (by omega)⟩ ?_
      refine ax_aald (b := 205 + (23 + i).toNat) d_Mo_attempt_855 ⟨by rw [(k_204 S)]; decide, by rw [(k_204 S)]; decide⟩ (by omega) (by rw [n_204 S]; omega) (g_204 S (by omega) (by omega)) ?_
      refine aw_aload_n d_Mo_attempt_856 rfl rfl ?_
      refine ax_getIe (x := 524288) d_Mo_attempt_857 fd_Mo_237 (k_175 S) (Eq.trans (F2.1 175 35 (by omega) (Or.inr (by decide))) (dr1_35 D)) ?_
      refine aw_aload_n d_Mo_attempt_860 rfl rfl ?_
      refine ax_getIe (x := 20) d_Mo_attempt_861 fd_Mo_251 (k_175 S) (Eq.trans (F2.1 175 39 (by omega) (Or.inr (by decide))) (dr1_39 D)) ?_
      refine ax_Vr (st := []) (as := [vr 263, vi 48, vr (205 + (23 + i).toNat), vi 524288, vi 20]) (b := 175) d_Mo_attempt_864 cs_Mo_attempt_864 (k_175 S) (c_Mo_pack (pa := 48) (c := 640 * i) (d := 20) (b := 524288) S ⟨k_263 S, by decide, by decide⟩ ⟨kr_204 S (by omega), by omega, nr_204 S (by omega)⟩ (by omega) (by decide) (by omega) (fun j x y => by rw [F2.1 _ _ (by omega) (Or.inl (by omega)), hz i hi.1 (by omega) j x y]; exact wiN_20 (by decide) sgZ_in (gd.1 i hi.1 (by show i < 5; omega)) x y) (by decide) (by rw [n_263 S]; omega)) rfl rfl rfl (fun u_864 q_864 => ?_)
      obtain ⟨q1, q2, q3⟩ := q_864
      show AW l G M_Mo_attempt P 867 [(5, vi i), (0, vr 175)] [] (sD h u_864 M)
      refine ax_iinc (lv' := [(5, vi (i + 1)), (0, vr 175)]) d_Mo_attempt_867 rfl (by decide) ⟨(by omega), (by omega)⟩ rfl ?_
      refine aw_goto (tgt := 828) d_Mo_attempt_870 (by decide) ?_
      exact ih_828 _ (by omega) (i + 1) u_864 (by omega) (F2.tr (FR.bits (p := fun a => a = 263) q1 rfl) (fun a x => ⟨x, x⟩)) (by omega) (fun z x y => by by_cases v : z < 48 + 640 * i; exact (by rw [q1 263 _ (Or.inr (by omega)) (Or.inl (by decide))]; exact h2 z x v); exact (by have y2 := q3 (z - (48 + 640 * i)) (by omega) (by omega); rw [show (48 + 640 * i + (z - (48 + 640 * i)) : Int) = 0 + z by omega] at y2; rw [y2, show sgPk 1 sk rh mu t z = pcB1 (sgC 1 sk rh mu t) (sgZ 1 sk rh mu t) (sgF 1 sk rh mu t) z from rfl]; unfold pcB1; rw [if_neg (by omega), if_pos (by omega), show (z - 48) / 640 = i by omega, show (z - 48) % 640 = z - (48 + 640 * i) by omega]; exact congrFun (gB_congr (fun j u v => by rw [F2.1 _ _ (by omega) (Or.inl (by omega))]; exact hz i hi.1 (by omega) j u v)) _)) rfl
  skip
  exact lp_828 _ 0 (a_up (putRow K 263 0 48 (fun k => K 267 (0 + k))) 175 23 0) (by omega) ((FR.put (p := fun a => a = 263) rfl).tr (FR.b0 (p := fun a => a = 263)) (fun a x => ⟨x, x⟩)) (by rw [a_up_at]; rfl) (fun z x y => by rw [a_up_ne (Or.inl (by decide))]; exact HR.put (g' := sgPk 1 sk rh mu t) (fun z x y => by rw [hch z x y, show sgPk 1 sk rh mu t z = pcB1 (sgC 1 sk rh mu t) (sgZ 1 sk rh mu t) (sgF 1 sk rh mu t) z from rfl]; unfold pcB1; rw [if_pos y]) z x (by omega)) rfl
set_option maxHeartbeats 4000000 in
set_option maxRecDepth 100000 in
theorem aE1 {l : Launch} {G : a_G} {P : a_R → Hp → Prop} {h : Hp} {K0 M0 K M : Nat → Int → Int} {sk rh mu : Int → Int} {t : Int} (S : Shp h) (D0 : RD K0 M0 1) (hk0 : HR K0 180 0 4032 sk) (km : ∀ x, sk x % 256 = sk x) (hr0 : HR K0 266 0 64 rh) (rm0 : ∀ x, rh x % 256 = rh x) (hm0 : HR K0 265 0 64 mu) (mm0 : ∀ x, mu x % 256 = mu x) (hS0 : ∀ m, 0 ≤ m → m < 11 → eqQ (K0 (205 + m.toNat)) (sgSs 1 sk m)) (hD0 : ∀ m, 0 ≤ m → m < 6 → eqQ (K0 (205 + (15 + m).toNat)) (sgDs 1 sk m)) (ht : 0 ≤ t ∧ t < 814) (F0 : FR pAt K0 M0 K M) (okk : (sgOk 1 sk ∧ bll 49 (sgBs 1 sk rh mu t) ≠ none)) (gd1 : ∀ m, 0 ≤ m → m < pL 1 → wiN (pG1 1 - sBd 1) ((sgZ 1 sk rh mu t) m)) (hch : HR K 267 0 48 (sgC 1 sk rh mu t)) (hz : ∀ m, 0 ≤ m → m < 5 → ∀ j, 0 ≤ j → j < 256 → 524288 - K (205 + (23 + m).toNat) j = (524288 - (sgZ 1 sk rh mu t) m j) % 8380417) (hW : ∀ m, 0 ≤ m → m < 6 → eqQ (K (205 + (30 + m).toNat)) ((sgW 1 sk rh t) m)) (hB : eqQ (K 251) (blX 49 (sgBs 1 sk rh mu t))) (hP : ∀ r_ h2_, RaR h K0 M0 pAt (sgOk 1 sk ∧ bll 49 (sgBs 1 sk rh mu t) ≠ none) (sgGood 1 sk rh mu t) 3309 (sgPk 1 sk rh mu t) r_ h2_ → P r_ h2_) : AW l G M_Mo_attempt P 471 [(2, vi 196), (0, vr 175)] [] (sD h K M) := by
  have D := D0.fr F0 (by decide)
  have hS : ∀ m, 0 ≤ m → m < 11 → eqQ (K (205 + m.toNat)) (sgSs 1 sk m) := fun m a b j x y => (F0.1 _ _ (by omega) (Or.inl (by omega))).trans (hS0 m a b j x y)
  have hD : ∀ m, 0 ≤ m → m < 6 → eqQ (K (205 + (15 + m).toNat)) (sgDs 1 sk m) := fun m a b j x y => (F0.1 _ _ (by omega) (Or.inl (by omega))).trans (hD0 m a b j x y)
  refine aw_iconst d_Mo_attempt_471 ⟨by decide, by decide⟩ ?_
  refine aw_istore_n (lv' := [(3, vi 0), (2, vi 196), (0, vr 175)]) d_Mo_attempt_472 rfl (by decide) rfl ?_
  refine aw_iconst d_Mo_attempt_473 ⟨by decide, by decide⟩ ?_
  refine aw_istore (lv' := [(4, vi 0), (3, vi 0), (2, vi 196), (0, vr 175)]) d_Mo_attempt_474 (by decide) rfl ?_
  refine aw_iconst d_Mo_attempt_476 ⟨by decide, by decide⟩ ?_
  refine aw_istore (lv' := [(5, vi 0), (4, vi 0), (3, vi 0), (2, vi 196), (0, vr 175)]) d_Mo_attempt_477 (by decide) rfl ?_
  have lp_479 : ∀ (n_ : Nat) (i : Int) (hn : Int) (an : Int) (K2 : Nat → Int → Int) (M2 : Nat → Int → Int), (0 ≤ i ∧ i ≤ 6) → (FR (fun a => a = 252 ∨ 235 ≤ a ∧ a ≤ 242 ∨ 254 ≤ a ∧ a ≤ 261) K M K2 M2) → (∀ m, 0 ≤ m → m < i → eqQ (K2 (205 + (30 + m).toNat)) ((sgR 1 sk rh mu t) m)) → (∀ m, 0 ≤ m → i ≤ m → m < 6 → eqQ (K2 (205 + (30 + m).toNat)) ((sgW 1 sk rh t) m)) → (∀ m : Int, 0 ≤ m → m < i → ∀ x : Int, 0 ≤ x → x < 256 → K2 (254 + m.toNat) x = (if (sgF 1 sk rh mu t) (256 * m.toNat + x.toNat) = true then 1 else 0)) → (hn = (hIt (sgF 1 sk rh mu t) (256 * i.toNat + (0 : Int).toNat)).1) → ((an = 0 ∨ an = 1) ∧ (an = 0 ↔ (∀ m, 0 ≤ m → m < i → (∀ x, 0 ≤ x → x < 256 → (-261692 < dLow 261888 ((sgR 1 sk rh mu t) m x) ∧ dLow 261888 ((sgR 1 sk rh mu t) m x) < 261692)) ∧ ∀ x, 0 ≤ x → x < 256 → (¬ (261888 ≤ (prB (sgB 1 sk rh mu t) (sgD 1 sk m) x) ∧ (prB (sgB 1 sk rh mu t) (sgD 1 sk m) x) ≤ 8380417 - 261888))))) → ((6 - i).toNat) = n_ → AW l G M_Mo_attempt P 479 [(5, vi i), (4, vi an), (3, vi hn), (2, vi 196), (0, vr 175)] [] (sD h K2 M2) := by
    intro n_
    induction n_ using Nat.strongRecOn with
    | _ n_ ih_479 =>
    intro i hn an K2 M2 hi F2 dn td hr2 e2 a2 hm_479
    have h30 := hIt_0 (fl := (sgF 1 sk rh mu t)) (256 * i.toNat + (0 : Int).toNat)
    refine aw_iload d_Mo_attempt_479 rfl ?_
    refine aw_aload_n d_Mo_attempt_481 rfl rfl ?_
    refine ax_getIe (x := 6) d_Mo_attempt_482 fd_Mo_223 (k_175 S) (Eq.trans (F2.1 175 26 (by omega) (Or.inr (by decide))) (dr1_26 D)) ?_
    refine aw_icmp_ge (tgt := 788) d_Mo_attempt_485 (by decide) (fun c_485 => ?_) (fun c_485 => ?_)
    · skip
      refine aw_iload d_Mo_attempt_788 rfl ?_
      refine aw_if_ne (tgt := 801) d_Mo_attempt_790 (by decide) (fun c_790 => ?_) (fun c_790 => ?_)
      · skip
        refine aw_iconst d_Mo_attempt_801 ⟨by decide, by decide⟩ ?_
        exact aw_iret d_Mo_attempt_802 rfl (hP _ _ ⟨_, K2, M2, rfl, rfl, F0.tr F2 (by intro a x; exact ⟨x, by intro z; exact x (by omega)⟩), Or.inr (Or.inl ⟨rfl, okk, fun z => by have y := a2.2.2 (fun m a b => ⟨fun x u v => z.2.1 m a (by show m < 6; omega) x u v, fun x u v => z.2.2.1 m a (by show m < 6; omega) x u v⟩); have y2 : (hIt (sgF 1 sk rh mu t) 1536).1 ≤ 55 := z.2.2.2; rw [show 256 * i.toNat + (0 : Int).toNat = 1536 by omega] at e2; omega⟩)⟩)
      · skip
        refine aw_iload_n d_Mo_attempt_793 rfl rfl ?_
        refine aw_aload_n d_Mo_attempt_794 rfl rfl ?_
        refine ax_getIe (x := 55) d_Mo_attempt_795 fd_Mo_245 (k_175 S) (Eq.trans (F2.1 175 37 (by omega) (Or.inr (by decide))) (dr1_37 D)) ?_
        refine aw_icmp_le (tgt := 803) d_Mo_attempt_798 (by decide) (fun c_798 => ?_) (fun c_798 => ?_)
        · skip
          refine aw_sub (lv' := [(0, vr 175)]) (by simp) ?_
          have y := a2.2.1 (by omega)
          rw [show 256 * i.toNat + (0 : Int).toNat = 1536 by omega] at e2
          exact aF1 S D0 hk0 km hr0 rm0 hm0 mm0 hS0 hD0 ht (F0.tr F2 (by intro a x; exact ⟨x, by intro z; exact x (by omega)⟩)) okk ⟨gd1, fun m a b => (y m a (by have b2 : m < 6 := b; omega)).1, fun m a b => (y m a (by have b2 : m < 6 := b; omega)).2, by show (hIt (sgF 1 sk rh mu t) 1536).1 ≤ 55; omega⟩ (hch.fr F2 (by decide) (by decide)) (fun m a b j x y => by rw [F2.1 _ _ (by omega) (Or.inl (by omega))]; exact hz m a b j x y) (fun m a b => hr2 m a (by omega)) hP
        · skip
          refine aw_iconst d_Mo_attempt_801 ⟨by decide, by decide⟩ ?_
          exact aw_iret d_Mo_attempt_802 rfl (hP _ _ ⟨_, K2, M2, rfl, rfl, F0.tr F2 (by intro a x; exact ⟨x, by intro z; exact x (by omega)⟩), Or.inr (Or.inl ⟨rfl, okk, fun z => by have y := a2.2.2 (fun m a b => ⟨fun x u v => z.2.1 m a (by show m < 6; omega) x u v, fun x u v => z.2.2.1 m a (by show m < 6; omega) x u v⟩); have y2 : (hIt (sgF 1 sk rh mu t) 1536).1 ≤ 55 := z.2.2.2; rw [show 256 * i.toNat + (0 : Int).toNat = 1536 by omega] at e2; omega⟩)⟩)
    · skip
      refine aw_aload_n d_Mo_attempt_488 rfl rfl ?_
      refine aw_aload_n d_Mo_attempt_489 rfl rfl ?_
      refine ax_getR (b := 204) d_Mo_attempt_490 fd_Mo_76 (k_175 S) (r_175_28 S) ?_
      refine aw_bipush d_Mo_attempt_493 ⟨by decide, by decide⟩ (by decide) ?_
      refine ax_aald (b := 252) d_Mo_attempt_495 ⟨by rw [(k_204 S)]; decide, by rw [(k_204 S)]; decide⟩ (by omega) (by rw [n_204 S]; omega) (g_204 S (j := 47) (by decide) (by decide)) ?_
      refine aw_aload_n d_Mo_attempt_496 rfl rfl ?_
      refine ax_getR (b := 204) d_Mo_attempt_497 fd_Mo_76 (k_175 S) (r_175_28 S) ?_
      refine aw_bipush d_Mo_attempt_500 ⟨by decide, by decide⟩ (by decide) ?_
      refine ax_aald (b := 251) d_Mo_attempt_502 ⟨by rw [(k_204 S)]; decide, by rw [(k_204 S)]; decide⟩ (by omega) (by rw [n_204 S]; omega) (g_204 S (j := 46) (by decide) (by decide)) ?_
      refine aw_aload_n d_Mo_attempt_503 rfl rfl ?_
      refine ax_getR (b := 204) d_Mo_attempt_504 fd_Mo_76 (k_175 S) (r_175_28 S) ?_
      refine aw_aload_n d_Mo_attempt_507 rfl rfl ?_
      refine ax_getIe (x := 5) d_Mo_attempt_508 fd_Mo_226 (k_175 S) (Eq.trans (F2.1 175 32 (by omega) (Or.inr (by decide))) (dr1_32 D)) ?_
      refine aw_iload d_Mo_attempt_511 rfl ?_
      refine ax_iadd d_Mo_attempt_513 ⟨(by omega), (by omega)⟩ ?_
      refine ax_aald (b := 205 + (5 + i).toNat) d_Mo_attempt_514 ⟨by rw [(k_204 S)]; decide, by rw [(k_204 S)]; decide⟩ (by omega) (by rw [n_204 S]; omega) (g_204 S (by omega) (by omega)) ?_
      refine ax_Vr (st := []) (as := [vr 252, vr 251, vr (205 + (5 + i).toNat)]) (b := 175) d_Mo_attempt_515 cs_Mo_attempt_515 (k_175 S) (c_Mo_few S ⟨k_252 S, by decide, n_252 S⟩ ⟨k_251 S, by decide, n_251 S⟩ ⟨kr_204 S (by omega), by omega, nr_204 S (by omega)⟩ (fun j x y => by rw [F2.1 _ _ (by omega) (Or.inl (by omega)), hB j x y]; exact blX_b j) (fun j x y => by rw [F2.1 _ _ (by omega) (Or.inl (by omega)), hS (5 + i) (by omega) (by omega) j x y]; have := sgSs_b (s := 1) (sk := sk) (m := 5 + i) (j := j); omega)) rfl rfl rfl (fun u_515 q_515 => ?_)
      have l1 := q_515
      have q252 : eqQ ((rowTo K2 252 256 (few (K2 251) (K2 (205 + (5 + i).toNat)))) 252) (fun j => cen (prB (sgB 1 sk rh mu t) (sgV 1 sk (5 + i)) j)) := fun j x y => by rw [rowTo_in x y]; exact few_prB (fun z u v => (F2.1 _ _ (by omega) (Or.inl (by omega))).trans (hB z u v)) (fun z u v => (F2.1 _ _ (by omega) (Or.inl (by omega))).trans (hS (5 + i) (by omega) (by omega) z u v)) j x y
      show AW l G M_Mo_attempt P 518 [(5, vi i), (4, vi an), (3, vi hn), (2, vi 196), (0, vr 175)] [] (sD h (rowTo K2 252 256 (few (K2 251) (K2 (205 + (5 + i).toNat)))) u_515)
      refine aw_iconst d_Mo_attempt_518 ⟨by decide, by decide⟩ ?_
      refine aw_istore (lv' := [(6, vi 0), (5, vi i), (4, vi an), (3, vi hn), (2, vi 196), (0, vr 175)]) d_Mo_attempt_519 (by decide) rfl ?_
      have lp_521 : ∀ (n_ : Nat) (c : Int) (an3 : Int) (K3 : Nat → Int → Int), (0 ≤ c ∧ c ≤ 256) → (FR (fun a => a = 252 ∨ 235 ≤ a ∧ a ≤ 242 ∨ 254 ≤ a ∧ a ≤ 261) K M K3 u_515) → (FR (fun a => a = 205 + (30 + i).toNat) (rowTo K2 252 256 (few (K2 251) (K2 (205 + (5 + i).toNat)))) u_515 K3 u_515) → ((∀ x, 0 ≤ x → x < c → K3 (205 + (30 + i).toNat) x = (sgR 1 sk rh mu t) i x) ∧ ∀ x, c ≤ x → x < 256 → K3 (205 + (30 + i).toNat) x = (sgW 1 sk rh t) i x) → ((an3 = 0 ∨ an3 = 1) ∧ (an3 = 0 ↔ an = 0 ∧ ∀ x, 0 ≤ x → x < c → (-261692 < dLow 261888 ((sgR 1 sk rh mu t) i x) ∧ dLow 261888 ((sgR 1 sk rh mu t) i x) < 261692))) → ((256 - c).toNat) = n_ → AW l G M_Mo_attempt P 521 [(6, vi c), (5, vi i), (4, vi an3), (3, vi hn), (2, vi 196), (0, vr 175)] [] (sD h K3 u_515) := by
        intro n_
        induction n_ using Nat.strongRecOn with
        | _ n_ ih_521 =>
        intro c an3 K3 hc F3 t3 r3 a3 hm_521
        have p3 : c < 256 → K3 252 c = cen (prB (sgB 1 sk rh mu t) (sgV 1 sk (5 + i)) c) := fun v => by rw [t3.1 _ _ (by omega) (Or.inl (by omega))]; exact q252 c hc.1 v
        have gp3 : K3 175 36 = 261888 := (F3.1 175 36 (by omega) (Or.inr (by decide))).trans (dr1_36 D)
        refine aw_iload d_Mo_attempt_521 rfl ?_
        refine aw_sipush d_Mo_attempt_523 ⟨by decide, by decide⟩ (by decide) ?_
        refine aw_icmp_ge (tgt := 624) d_Mo_attempt_526 (by decide) (fun c_526 => ?_) (fun c_526 => ?_)
        · skip
          refine aw_aload_n d_Mo_attempt_624 rfl rfl ?_
          refine aw_aload_n d_Mo_attempt_625 rfl rfl ?_
          refine ax_getR (b := 204) d_Mo_attempt_626 fd_Mo_76 (k_175 S) (r_175_28 S) ?_
          refine aw_bipush d_Mo_attempt_629 ⟨by decide, by decide⟩ (by decide) ?_
          refine ax_aald (b := 252) d_Mo_attempt_631 ⟨by rw [(k_204 S)]; decide, by rw [(k_204 S)]; decide⟩ (by omega) (by rw [n_204 S]; omega) (g_204 S (j := 47) (by decide) (by decide)) ?_
          refine aw_aload_n d_Mo_attempt_632 rfl rfl ?_
          refine ax_getR (b := 204) d_Mo_attempt_633 fd_Mo_76 (k_175 S) (r_175_28 S) ?_
          refine aw_bipush d_Mo_attempt_636 ⟨by decide, by decide⟩ (by decide) ?_
          refine ax_aald (b := 251) d_Mo_attempt_638 ⟨by rw [(k_204 S)]; decide, by rw [(k_204 S)]; decide⟩ (by omega) (by rw [n_204 S]; omega) (g_204 S (j := 46) (by decide) (by decide)) ?_
          refine aw_aload_n d_Mo_attempt_639 rfl rfl ?_
          refine ax_getR (b := 204) d_Mo_attempt_640 fd_Mo_76 (k_175 S) (r_175_28 S) ?_
          refine aw_bipush d_Mo_attempt_643 ⟨by decide, by decide⟩ (by decide) ?_
          refine aw_iload d_Mo_attempt_645 rfl ?_
          refine ax_iadd d_Mo_attempt_647 ⟨(by omega), (by omega)⟩ ?_
          refine ax_aald (b := 205 + (15 + i).toNat) d_Mo_attempt_648 ⟨by rw [(k_204 S)]; decide, by rw [(k_204 S)]; decide⟩ (by omega) (by rw [n_204 S]; omega) (g_204 S (by omega) (by omega)) ?_
          refine ax_Vr (st := []) (as := [vr 252, vr 251, vr (205 + (15 + i).toNat)]) (b := 175) d_Mo_attempt_649 cs_Mo_attempt_649 (k_175 S) (c_Mo_few S ⟨k_252 S, by decide, n_252 S⟩ ⟨k_251 S, by decide, n_251 S⟩ ⟨kr_204 S (by omega), by omega, nr_204 S (by omega)⟩ (fun j x y => by rw [F3.1 _ _ (by omega) (Or.inl (by omega)), hB j x y]; exact blX_b j) (fun j x y => by rw [F3.1 _ _ (by omega) (Or.inl (by omega)), hD i hi.1 (by omega) j x y]; have := sgDs_b (s := 1) (sk := sk) (m := i) (j := j); omega)) rfl rfl rfl (fun u_649 q_649 => ?_)
          have l2 := q_649
          have q252 : eqQ ((rowTo K3 252 256 (few (K3 251) (K3 (205 + (15 + i).toNat)))) 252) (fun j => cen (prB (sgB 1 sk rh mu t) (sgD 1 sk i) j)) := fun j x y => by rw [rowTo_in x y]; exact few_prB (fun z u v => (F3.1 _ _ (by omega) (Or.inl (by omega))).trans (hB z u v)) (fun z u v => (F3.1 _ _ (by omega) (Or.inl (by omega))).trans (hD i hi.1 (by omega) z u v)) j x y
          show AW l G M_Mo_attempt P 652 [(6, vi c), (5, vi i), (4, vi an3), (3, vi hn), (2, vi 196), (0, vr 175)] [] (sD h (rowTo K3 252 256 (few (K3 251) (K3 (205 + (15 + i).toNat)))) u_649)
          refine aw_iconst d_Mo_attempt_652 ⟨by decide, by decide⟩ ?_
          refine aw_istore (lv' := [(6, vi 0), (5, vi i), (4, vi an3), (3, vi hn), (2, vi 196), (0, vr 175)]) d_Mo_attempt_653 (by decide) rfl ?_
          have lp_655 : ∀ (n_ : Nat) (c : Int) (hn : Int) (an : Int) (K4 : Nat → Int → Int), (0 ≤ c ∧ c ≤ 256) → (FR (fun a => a = 252 ∨ 235 ≤ a ∧ a ≤ 242 ∨ 254 ≤ a ∧ a ≤ 261) K M K4 u_649) → (FR (fun a => a = 254 + i.toNat) (rowTo K3 252 256 (few (K3 251) (K3 (205 + (15 + i).toNat)))) u_649 K4 u_649) → (∀ x : Int, 0 ≤ x → x < c → K4 (254 + i.toNat) x = (if (sgF 1 sk rh mu t) (256 * i.toNat + x.toNat) = true then 1 else 0)) → (hn = (hIt (sgF 1 sk rh mu t) (256 * i.toNat + c.toNat)).1) → ((an = 0 ∨ an = 1) ∧ (an = 0 ↔ an3 = 0 ∧ ∀ x, 0 ≤ x → x < c → (¬ (261888 ≤ (prB (sgB 1 sk rh mu t) (sgD 1 sk i) x) ∧ (prB (sgB 1 sk rh mu t) (sgD 1 sk i) x) ≤ 8380417 - 261888)))) → ((256 - c).toNat) = n_ → AW l G M_Mo_attempt P 655 [(6, vi c), (5, vi i), (4, vi an), (3, vi hn), (2, vi 196), (0, vr 175)] [] (sD h K4 u_649) := by
            intro n_
            induction n_ using Nat.strongRecOn with
            | _ n_ ih_655 =>
            intro c hn an K4 hc4 F4 t4 w4 e4 a4 hm_655
            have r4 : eqQ (K4 (205 + (30 + i).toNat)) ((sgR 1 sk rh mu t) i) := fun x a b => by rw [t4.1 _ _ (by omega) (Or.inl (by omega)), rowTo_ne (by omega)]; exact r3.1 x a (by omega)
            have p4 : c < 256 → K4 252 c = cen (prB (sgB 1 sk rh mu t) (sgD 1 sk i) c) := fun v => by rw [t4.1 _ _ (by omega) (Or.inl (by omega))]; exact q252 c hc4.1 v
            have r4c : c < 256 → K4 (205 + (30 + i).toNat) c = (sgR 1 sk rh mu t) i c := fun v => r4 c hc4.1 v
            have h40 := hIt_0 (fl := (sgF 1 sk rh mu t)) (256 * i.toNat + c.toNat)
            have h41 := hIt_cnt (fl := (sgF 1 sk rh mu t)) (256 * i.toNat + c.toNat)
            have gp4 : K4 175 36 = 261888 := (F4.1 175 36 (by omega) (Or.inr (by decide))).trans (dr1_36 D)
            refine aw_iload d_Mo_attempt_655 rfl ?_
            refine aw_sipush d_Mo_attempt_657 ⟨by decide, by decide⟩ (by decide) ?_
            refine aw_icmp_ge (tgt := 782) d_Mo_attempt_660 (by decide) (fun c_660 => ?_) (fun c_660 => ?_)
            · skip
              refine ax_iinc (lv' := [(5, vi (i + 1)), (6, vi c), (4, vi an), (3, vi hn), (2, vi 196), (0, vr 175)]) d_Mo_attempt_782 rfl (by decide) ⟨(by omega), (by omega)⟩ rfl ?_
              refine aw_goto (tgt := 479) d_Mo_attempt_785 (by decide) ?_
              refine aw_sub (lv' := [(5, vi (i + 1)), (4, vi an), (3, vi hn), (2, vi 196), (0, vr 175)]) (by simp) ?_
              exact ih_479 _ (by omega) (i + 1) hn an K4 u_649 (by omega) (F4) (fun m a b j x y => by by_cases z : m = i; exact (by rw [z]; exact r4 j x y); exact (by rw [t4.1 _ _ (by omega) (Or.inl (by omega)), rowTo_ne (by omega), t3.1 _ _ (by omega) (Or.inl (by omega)), rowTo_ne (by omega)]; exact dn m a (by omega) j x y)) (fun m a b c j x y => by rw [t4.1 _ _ (by omega) (Or.inl (by omega)), rowTo_ne (by omega), t3.1 _ _ (by omega) (Or.inl (by omega)), rowTo_ne (by omega)]; exact td m a (by omega) c j x y) (fun m a b j x y => by by_cases z : m = i; exact (by rw [z]; exact w4 j x (by omega)); exact (by rw [t4.1 _ _ (by omega) (Or.inl (by omega)), rowTo_ne (by omega), t3.1 _ _ (by omega) (Or.inl (by omega)), rowTo_ne (by omega)]; exact hr2 m a (by omega) j x y)) (by rw [e4, show 256 * i.toNat + c.toNat = 256 * (i + 1).toNat + (0 : Int).toNat by omega]) (⟨a4.1, fun z m a b => by have y := a4.2.1 z; by_cases v : m = i; exact (by rw [v]; exact ⟨fun x u w_ => (a3.2.1 y.1).2 x u (by omega), fun x u w_ => y.2 x u (by omega)⟩); exact a2.2.1 (a3.2.1 y.1).1 m a (by omega), fun z => a4.2.2 ⟨a3.2.2 ⟨a2.2.2 (fun m a b => z m a (by omega)), fun x u v => (z i hi.1 (by omega)).1 x u (by omega)⟩, fun x u v => (z i hi.1 (by omega)).2 x u (by omega)⟩⟩) rfl
            · skip
              have c1 := prB_in (B := (sgB 1 sk rh mu t)) (V := (sgD 1 sk i)) c hc4.1 (by omega)
              have c2 := sgR_in (s := 1) (sk := sk) (rh := rh) (mu := mu) (t := t) (m := i) c hc4.1 (by omega)
              have c3 := cen_b c1
              have eN : 256 * i.toNat + (c + 1).toNat = (256 * i.toNat + c.toNat) + 1 := by omega
              have fat := sgF_at (s := 1) (sk := sk) (rh := rh) (mu := mu) (t := t) (m := i.toNat) (j := c.toNat) (by omega)
              rw [Int.toNat_of_nonneg hi.1, Int.toNat_of_nonneg hc4.1] at fat
              have wc := cen_w (t := 261888) (by decide) c1
              refine aw_aload_n d_Mo_attempt_663 rfl rfl ?_
              refine ax_getR (b := 204) d_Mo_attempt_664 fd_Mo_76 (k_175 S) (r_175_28 S) ?_
              refine aw_bipush d_Mo_attempt_667 ⟨by decide, by decide⟩ (by decide) ?_
              refine ax_aald (b := 252) d_Mo_attempt_669 ⟨by rw [(k_204 S)]; decide, by rw [(k_204 S)]; decide⟩ (by omega) (by rw [n_204 S]; omega) (g_204 S (j := 47) (by decide) (by decide)) ?_
              refine aw_iload d_Mo_attempt_670 rfl ?_
              refine ax_ialde (x := cen (prB (sgB 1 sk rh mu t) (sgD 1 sk i) c)) d_Mo_attempt_672 (k_252 S) (by omega) (by rw [n_252 S]; omega) (p4 (by omega)) ?_
              refine aw_istore (lv' := [(7, vi (cen (prB (sgB 1 sk rh mu t) (sgD 1 sk i) c))), (6, vi c), (5, vi i), (4, vi an), (3, vi hn), (2, vi 196), (0, vr 175)]) d_Mo_attempt_673 (by decide) rfl ?_
              refine aw_iload d_Mo_attempt_675 rfl ?_
              refine aw_aload_n d_Mo_attempt_677 rfl rfl ?_
              refine ax_getIe (x := 261888) d_Mo_attempt_678 fd_Mo_242 (k_175 S) (Eq.trans (F4.1 175 36 (by omega) (Or.inr (by decide))) (dr1_36 D)) ?_
              refine aw_icmp_ge (tgt := 694) d_Mo_attempt_681 (by decide) (fun c_681 => ?_) (fun c_681 => ?_)
              · skip
                refine aw_iconst d_Mo_attempt_694 ⟨by decide, by decide⟩ ?_
                refine aw_istore (lv' := [(4, vi 1), (7, vi (cen (prB (sgB 1 sk rh mu t) (sgD 1 sk i) c))), (6, vi c), (5, vi i), (3, vi hn), (2, vi 196), (0, vr 175)]) d_Mo_attempt_695 (by decide) rfl ?_
                refine aw_aload_n d_Mo_attempt_697 rfl rfl ?_
                refine ax_getR (b := 253) d_Mo_attempt_698 fd_Mo_81 (k_175 S) (r_175_29 S) ?_
                refine aw_iload d_Mo_attempt_701 rfl ?_
                refine ax_aald (b := 254 + i.toNat) d_Mo_attempt_703 ⟨by rw [(k_253 S)]; decide, by rw [(k_253 S)]; decide⟩ (by omega) (by rw [n_253 S]; omega) (g_253 S (by omega) (by omega)) ?_
                refine aw_iload d_Mo_attempt_704 rfl ?_
                refine aw_aload_n d_Mo_attempt_706 rfl rfl ?_
                refine aw_aload_n d_Mo_attempt_707 rfl rfl ?_
                refine ax_getR (b := 204) d_Mo_attempt_708 fd_Mo_76 (k_175 S) (r_175_28 S) ?_
                refine aw_bipush d_Mo_attempt_711 ⟨by decide, by decide⟩ (by decide) ?_
                refine aw_iload d_Mo_attempt_713 rfl ?_
                refine ax_iadd d_Mo_attempt_715 ⟨(by omega), (by omega)⟩ ?_
                refine ax_aald (b := 205 + (30 + i).toNat) d_Mo_attempt_716 ⟨by rw [(k_204 S)]; decide, by rw [(k_204 S)]; decide⟩ (by omega) (by rw [n_204 S]; omega) (g_204 S (by omega) (by omega)) ?_
                refine aw_iload d_Mo_attempt_717 rfl ?_
                refine ax_ialde (x := (sgR 1 sk rh mu t) i c) d_Mo_attempt_719 (kr_204 S (by omega)) (by omega) (by rw [nr_204 S (by omega)]; omega) (r4c (by omega)) ?_
                refine aw_iload d_Mo_attempt_720 rfl ?_
                refine ax_iadd d_Mo_attempt_722 ⟨(by omega), (by omega)⟩ ?_
                refine aw_ldcw (n := 8380417) d_Mo_attempt_723 lc_Mo_264 ⟨by decide, by decide⟩ ?_
                refine ax_iadd d_Mo_attempt_726 ⟨(by omega), (by omega)⟩ ?_
                refine aw_ldcw (n := 8380417) d_Mo_attempt_727 lc_Mo_264 ⟨by decide, by decide⟩ ?_
                refine ax_irem d_Mo_attempt_730 (by omega) (by omega) ?_
                refine ax_ti (x := ((sgR 1 sk rh mu t) i c + (prB (sgB 1 sk rh mu t) (sgD 1 sk i) c)) % 8380417) (cen_a c1 c2) ?_
                refine ax_V (st := [vi c, vr (254 + i.toNat)]) (as := [vi (((sgR 1 sk rh mu t) i c + (prB (sgB 1 sk rh mu t) (sgD 1 sk i) c)) % 8380417)]) (b := 175) (v := some (vi (dHigh 261888 (((sgR 1 sk rh mu t) i c + (prB (sgB 1 sk rh mu t) (sgD 1 sk i) c)) % 8380417)))) (h' := sD h K4 u_649) d_Mo_attempt_731 cs_Mo_attempt_731 (k_175 S) (by have z := c_Mo_high (l := l) (G := G) (L := u_649) (I := K4) (r := ((sgR 1 sk rh mu t) i c + (prB (sgB 1 sk rh mu t) (sgD 1 sk i) c)) % 8380417) S (by rw [gp4]; decide) (by omega); rw [gp4] at z; exact z) rfl rfl rfl ?_
                show AW l G M_Mo_attempt P 734 [(4, vi 1), (7, vi (cen (prB (sgB 1 sk rh mu t) (sgD 1 sk i) c))), (6, vi c), (5, vi i), (3, vi hn), (2, vi 196), (0, vr 175)] [vi (dHigh 261888 (((sgR 1 sk rh mu t) i c + (prB (sgB 1 sk rh mu t) (sgD 1 sk i) c)) % 8380417)), vi c, vr (254 + i.toNat)] (sD h K4 u_649)
                refine aw_aload_n d_Mo_attempt_734 rfl rfl ?_
                refine aw_aload_n d_Mo_attempt_735 rfl rfl ?_
                refine ax_getR (b := 204) d_Mo_attempt_736 fd_Mo_76 (k_175 S) (r_175_28 S) ?_
                refine aw_bipush d_Mo_attempt_739 ⟨by decide, by decide⟩ (by decide) ?_
                refine aw_iload d_Mo_attempt_741 rfl ?_
                refine ax_iadd d_Mo_attempt_743 ⟨(by omega), (by omega)⟩ ?_
                refine ax_aald (b := 205 + (30 + i).toNat) d_Mo_attempt_744 ⟨by rw [(k_204 S)]; decide, by rw [(k_204 S)]; decide⟩ (by omega) (by rw [n_204 S]; omega) (g_204 S (by omega) (by omega)) ?_
                refine aw_iload d_Mo_attempt_745 rfl ?_
                refine ax_ialde (x := (sgR 1 sk rh mu t) i c) d_Mo_attempt_747 (kr_204 S (by omega)) (by omega) (by rw [nr_204 S (by omega)]; omega) (r4c (by omega)) ?_
                refine ax_V (st := [vi (dHigh 261888 (((sgR 1 sk rh mu t) i c + (prB (sgB 1 sk rh mu t) (sgD 1 sk i) c)) % 8380417)), vi c, vr (254 + i.toNat)]) (as := [vi ((sgR 1 sk rh mu t) i c)]) (b := 175) (v := some (vi (dHigh 261888 ((sgR 1 sk rh mu t) i c)))) (h' := sD h K4 u_649) d_Mo_attempt_748 cs_Mo_attempt_748 (k_175 S) (by have z := c_Mo_high (l := l) (G := G) (L := u_649) (I := K4) (r := (sgR 1 sk rh mu t) i c) S (by rw [gp4]; decide) (sgR_in c hc4.1 (by omega)); rw [gp4] at z; exact z) rfl rfl rfl ?_
                show AW l G M_Mo_attempt P 751 [(4, vi 1), (7, vi (cen (prB (sgB 1 sk rh mu t) (sgD 1 sk i) c))), (6, vi c), (5, vi i), (3, vi hn), (2, vi 196), (0, vr 175)] [vi (dHigh 261888 ((sgR 1 sk rh mu t) i c)), vi (dHigh 261888 (((sgR 1 sk rh mu t) i c + (prB (sgB 1 sk rh mu t) (sgD 1 sk i) c)) % 8380417)), vi c, vr (254 + i.toNat)] (sD h K4 u_649)
                refine aw_icmp_eq (tgt := 758) d_Mo_attempt_751 (by decide) (fun c_751 => ?_) (fun c_751 => ?_)
                · skip
                  have fy : ¬ (sgF 1 sk rh mu t) (256 * i.toNat + c.toNat) = true := fun z => fat.1 z c_751
                  refine aw_iconst d_Mo_attempt_758 ⟨by decide, by decide⟩ ?_
                  refine ax_zast d_Mo_attempt_759 (kr_253 S (by omega)) (by omega) (by omega) (by rw [nr_253 S (by omega)]; omega) (by omega) ?_
                  refine aw_aload_n d_Mo_attempt_760 rfl rfl ?_
                  refine ax_getR (b := 253) d_Mo_attempt_761 fd_Mo_81 (k_175 S) (r_175_29 S) ?_
                  refine aw_iload d_Mo_attempt_764 rfl ?_
                  refine ax_aald (b := 254 + i.toNat) d_Mo_attempt_766 ⟨by rw [(k_253 S)]; decide, by rw [(k_253 S)]; decide⟩ (by omega) (by rw [n_253 S]; omega) (g_253 S (by omega) (by omega)) ?_
                  refine aw_iload d_Mo_attempt_767 rfl ?_
                  refine ax_zalde (x := 0) d_Mo_attempt_769 (kr_253 S (by omega)) (by omega) (by rw [nr_253 S (by omega)]; omega) (a_up_at) ?_
                  refine aw_if_eq (tgt := 776) d_Mo_attempt_770 (by decide) (fun c_770 => ?_) (fun c_770 => False.elim (by omega))
                  refine ax_iinc (lv' := [(6, vi (c + 1)), (4, vi 1), (7, vi (cen (prB (sgB 1 sk rh mu t) (sgD 1 sk i) c))), (5, vi i), (3, vi hn), (2, vi 196), (0, vr 175)]) d_Mo_attempt_776 rfl (by decide) ⟨(by omega), (by omega)⟩ rfl ?_
                  refine aw_goto (tgt := 655) d_Mo_attempt_779 (by decide) ?_
                  refine aw_sub (lv' := [(6, vi (c + 1)), (5, vi i), (4, vi 1), (3, vi hn), (2, vi 196), (0, vr 175)]) (by simp) ?_
                  exact ih_655 _ (by omega) (c + 1) hn 1 (a_up K4 (254 + i.toNat) c 0) (by omega) (F4.tr (FR.up (p := fun a => a = 252 ∨ 235 ≤ a ∧ a ≤ 242 ∨ 254 ≤ a ∧ a ≤ 261) (by omega)) (fun a x => ⟨x, x⟩)) (t4.tr (FR.up (p := fun a => a = 254 + i.toNat) rfl) (fun a x => ⟨x, x⟩)) (fun x a b => by by_cases z : x = c; exact (by rw [z, a_up_at, if_neg fy]); exact (by rw [a_up_ne (Or.inr z)]; exact w4 x a (by omega))) (by rw [eN, hIt_n fy]; exact e4) (⟨Or.inr rfl, fun z => absurd z (by decide), fun z => by have y := z.2 c hc4.1 (by omega); unfold cen at *; (repeat (first | omega | split at *))⟩) rfl
                · skip
                  have fy : (sgF 1 sk rh mu t) (256 * i.toNat + c.toNat) = true := fat.2 c_751
                  refine aw_iconst d_Mo_attempt_754 ⟨by decide, by decide⟩ ?_
                  refine aw_goto (tgt := 759) d_Mo_attempt_755 (by decide) ?_
                  refine ax_zast d_Mo_attempt_759 (kr_253 S (by omega)) (by omega) (by omega) (by rw [nr_253 S (by omega)]; omega) (by omega) ?_
                  refine aw_aload_n d_Mo_attempt_760 rfl rfl ?_
                  refine ax_getR (b := 253) d_Mo_attempt_761 fd_Mo_81 (k_175 S) (r_175_29 S) ?_
                  refine aw_iload d_Mo_attempt_764 rfl ?_
                  refine ax_aald (b := 254 + i.toNat) d_Mo_attempt_766 ⟨by rw [(k_253 S)]; decide, by rw [(k_253 S)]; decide⟩ (by omega) (by rw [n_253 S]; omega) (g_253 S (by omega) (by omega)) ?_
                  refine aw_iload d_Mo_attempt_767 rfl ?_
                  refine ax_zalde (x := 1) d_Mo_attempt_769 (kr_253 S (by omega)) (by omega) (by rw [nr_253 S (by omega)]; omega) (a_up_at) ?_
                  refine aw_if_eq (tgt := 776) d_Mo_attempt_770 (by decide) (fun c_770 => False.elim (by omega)) (fun c_770 => ?_)
                  refine ax_iinc (lv' := [(3, vi (hn + 1)), (4, vi 1), (7, vi (cen (prB (sgB 1 sk rh mu t) (sgD 1 sk i) c))), (6, vi c), (5, vi i), (2, vi 196), (0, vr 175)]) d_Mo_attempt_773 rfl (by decide) ⟨(by omega), (by omega)⟩ rfl ?_
                  refine ax_iinc (lv' := [(6, vi (c + 1)), (3, vi (hn + 1)), (4, vi 1), (7, vi (cen (prB (sgB 1 sk rh mu t) (sgD 1 sk i) c))), (5, vi i), (2, vi 196), (0, vr 175)]) d_Mo_attempt_776 rfl (by decide) ⟨(by omega), (by omega)⟩ rfl ?_
                  refine aw_goto (tgt := 655) d_Mo_attempt_779 (by decide) ?_
                  refine aw_sub (lv' := [(6, vi (c + 1)), (5, vi i), (4, vi 1), (3, vi (hn + 1)), (2, vi 196), (0, vr 175)]) (by simp) ?_
                  exact ih_655 _ (by omega) (c + 1) (hn + 1) 1 (a_up K4 (254 + i.toNat) c 1) (by omega) (F4.tr (FR.up (p := fun a => a = 252 ∨ 235 ≤ a ∧ a ≤ 242 ∨ 254 ≤ a ∧ a ≤ 261) (by omega)) (fun a x => ⟨x, x⟩)) (t4.tr (FR.up (p := fun a => a = 254 + i.toNat) rfl) (fun a x => ⟨x, x⟩)) (fun x a b => by by_cases z : x = c; exact (by rw [z, a_up_at, if_pos fy]); exact (by rw [a_up_ne (Or.inr z)]; exact w4 x a (by omega))) (by rw [eN, hIt_y fy]; show hn + 1 = _ + 1; rw [e4]) (⟨Or.inr rfl, fun z => absurd z (by decide), fun z => by have y := z.2 c hc4.1 (by omega); unfold cen at *; (repeat (first | omega | split at *))⟩) rfl
              · skip
                refine aw_iload d_Mo_attempt_684 rfl ?_
                refine aw_aload_n d_Mo_attempt_686 rfl rfl ?_
                refine ax_getIe (x := 261888) d_Mo_attempt_687 fd_Mo_242 (k_175 S) (Eq.trans (F4.1 175 36 (by omega) (Or.inr (by decide))) (dr1_36 D)) ?_
                refine ax_ineg d_Mo_attempt_690 (by omega) (by omega) ?_
                refine aw_icmp_gt (tgt := 697) d_Mo_attempt_691 (by decide) (fun c_691 => ?_) (fun c_691 => ?_)
                · skip
                  have wn : (¬ (261888 ≤ (prB (sgB 1 sk rh mu t) (sgD 1 sk i) c) ∧ (prB (sgB 1 sk rh mu t) (sgD 1 sk i) c) ≤ 8380417 - 261888)) := by omega
                  refine aw_aload_n d_Mo_attempt_697 rfl rfl ?_
                  refine ax_getR (b := 253) d_Mo_attempt_698 fd_Mo_81 (k_175 S) (r_175_29 S) ?_
                  refine aw_iload d_Mo_attempt_701 rfl ?_
                  refine ax_aald (b := 254 + i.toNat) d_Mo_attempt_703 ⟨by rw [(k_253 S)]; decide, by rw [(k_253 S)]; decide⟩ (by omega) (by rw [n_253 S]; omega) (g_253 S (by omega) (by omega)) ?_
                  refine aw_iload d_Mo_attempt_704 rfl ?_
                  refine aw_aload_n d_Mo_attempt_706 rfl rfl ?_
                  refine aw_aload_n d_Mo_attempt_707 rfl rfl ?_
                  refine ax_getR (b := 204) d_Mo_attempt_708 fd_Mo_76 (k_175 S) (r_175_28 S) ?_
                  refine aw_bipush d_Mo_attempt_711 ⟨by decide, by decide⟩ (by decide) ?_
                  refine aw_iload d_Mo_attempt_713 rfl ?_
                  refine ax_iadd d_Mo_attempt_715 ⟨(by omega), (by omega)⟩ ?_
                  refine ax_aald (b := 205 + (30 + i).toNat) d_Mo_attempt_716 ⟨by rw [(k_204 S)]; decide, by rw [(k_204 S)]; decide⟩ (by omega) (by rw [n_204 S]; omega) (g_204 S (by omega) (by omega)) ?_
                  refine aw_iload d_Mo_attempt_717 rfl ?_
                  refine ax_ialde (x := (sgR 1 sk rh mu t) i c) d_Mo_attempt_719 (kr_204 S (by omega)) (by omega) (by rw [nr_204 S (by omega)]; omega) (r4c (by omega)) ?_
                  refine aw_iload d_Mo_attempt_720 rfl ?_
                  refine ax_iadd d_Mo_attempt_722 ⟨(by omega), (by omega)⟩ ?_
                  refine aw_ldcw (n := 8380417) d_Mo_attempt_723 lc_Mo_264 ⟨by decide, by decide⟩ ?_
                  refine ax_iadd d_Mo_attempt_726 ⟨(by omega), (by omega)⟩ ?_
                  refine aw_ldcw (n := 8380417) d_Mo_attempt_727 lc_Mo_264 ⟨by decide, by decide⟩ ?_
                  refine ax_irem d_Mo_attempt_730 (by omega) (by omega) ?_
                  refine ax_ti (x := ((sgR 1 sk rh mu t) i c + (prB (sgB 1 sk rh mu t) (sgD 1 sk i) c)) % 8380417) (cen_a c1 c2) ?_
                  refine ax_V (st := [vi c, vr (254 + i.toNat)]) (as := [vi (((sgR 1 sk rh mu t) i c + (prB (sgB 1 sk rh mu t) (sgD 1 sk i) c)) % 8380417)]) (b := 175) (v := some (vi (dHigh 261888 (((sgR 1 sk rh mu t) i c + (prB (sgB 1 sk rh mu t) (sgD 1 sk i) c)) % 8380417)))) (h' := sD h K4 u_649) d_Mo_attempt_731 cs_Mo_attempt_731 (k_175 S) (by have z := c_Mo_high (l := l) (G := G) (L := u_649) (I := K4) (r := ((sgR 1 sk rh mu t) i c + (prB (sgB 1 sk rh mu t) (sgD 1 sk i) c)) % 8380417) S (by rw [gp4]; decide) (by omega); rw [gp4] at z; exact z) rfl rfl rfl ?_
                  show AW l G M_Mo_attempt P 734 [(7, vi (cen (prB (sgB 1 sk rh mu t) (sgD 1 sk i) c))), (6, vi c), (5, vi i), (4, vi an), (3, vi hn), (2, vi 196), (0, vr 175)] [vi (dHigh 261888 (((sgR 1 sk rh mu t) i c + (prB (sgB 1 sk rh mu t) (sgD 1 sk i) c)) % 8380417)), vi c, vr (254 + i.toNat)] (sD h K4 u_649)
                  refine aw_aload_n d_Mo_attempt_734 rfl rfl ?_
                  refine aw_aload_n d_Mo_attempt_735 rfl rfl ?_
                  refine ax_getR (b := 204) d_Mo_attempt_736 fd_Mo_76 (k_175 S) (r_175_28 S) ?_
                  refine aw_bipush d_Mo_attempt_739 ⟨by decide, by decide⟩ (by decide) ?_
                  refine aw_iload d_Mo_attempt_741 rfl ?_
                  refine ax_iadd d_Mo_attempt_743 ⟨(by omega), (by omega)⟩ ?_
                  refine ax_aald (b := 205 + (30 + i).toNat) d_Mo_attempt_744 ⟨by rw [(k_204 S)]; decide, by rw [(k_204 S)]; decide⟩ (by omega) (by rw [n_204 S]; omega) (g_204 S (by omega) (by omega)) ?_
                  refine aw_iload d_Mo_attempt_745 rfl ?_
                  refine ax_ialde (x := (sgR 1 sk rh mu t) i c) d_Mo_attempt_747 (kr_204 S (by omega)) (by omega) (by rw [nr_204 S (by omega)]; omega) (r4c (by omega)) ?_
                  refine ax_V (st := [vi (dHigh 261888 (((sgR 1 sk rh mu t) i c + (prB (sgB 1 sk rh mu t) (sgD 1 sk i) c)) % 8380417)), vi c, vr (254 + i.toNat)]) (as := [vi ((sgR 1 sk rh mu t) i c)]) (b := 175) (v := some (vi (dHigh 261888 ((sgR 1 sk rh mu t) i c)))) (h' := sD h K4 u_649) d_Mo_attempt_748 cs_Mo_attempt_748 (k_175 S) (by have z := c_Mo_high (l := l) (G := G) (L := u_649) (I := K4) (r := (sgR 1 sk rh mu t) i c) S (by rw [gp4]; decide) (sgR_in c hc4.1 (by omega)); rw [gp4] at z; exact z) rfl rfl rfl ?_
                  show AW l G M_Mo_attempt P 751 [(7, vi (cen (prB (sgB 1 sk rh mu t) (sgD 1 sk i) c))), (6, vi c), (5, vi i), (4, vi an), (3, vi hn), (2, vi 196), (0, vr 175)] [vi (dHigh 261888 ((sgR 1 sk rh mu t) i c)), vi (dHigh 261888 (((sgR 1 sk rh mu t) i c + (prB (sgB 1 sk rh mu t) (sgD 1 sk i) c)) % 8380417)), vi c, vr (254 + i.toNat)] (sD h K4 u_649)
                  refine aw_icmp_eq (tgt := 758) d_Mo_attempt_751 (by decide) (fun c_751 => ?_) (fun c_751 => ?_)
                  · skip
                    have fy : ¬ (sgF 1 sk rh mu t) (256 * i.toNat + c.toNat) = true := fun z => fat.1 z c_751
                    refine aw_iconst d_Mo_attempt_758 ⟨by decide, by decide⟩ ?_
                    refine ax_zast d_Mo_attempt_759 (kr_253 S (by omega)) (by omega) (by omega) (by rw [nr_253 S (by omega)]; omega) (by omega) ?_
                    refine aw_aload_n d_Mo_attempt_760 rfl rfl ?_
                    refine ax_getR (b := 253) d_Mo_attempt_761 fd_Mo_81 (k_175 S) (r_175_29 S) ?_
                    refine aw_iload d_Mo_attempt_764 rfl ?_
                    refine ax_aald (b := 254 + i.toNat) d_Mo_attempt_766 ⟨by rw [(k_253 S)]; decide, by rw [(k_253 S)]; decide⟩ (by omega) (by rw [n_253 S]; omega) (g_253 S (by omega) (by omega)) ?_
                    refine aw_iload d_Mo_attempt_767 rfl ?_
                    refine ax_zalde (x := 0) d_Mo_attempt_769 (kr_253 S (by omega)) (by omega) (by rw [nr_253 S (by omega)]; omega) (a_up_at) ?_
                    refine aw_if_eq (tgt := 776) d_Mo_attempt_770 (by decide) (fun c_770 => ?_) (fun c_770 => False.elim (by omega))
                    refine ax_iinc (lv' := [(6, vi (c + 1)), (7, vi (cen (prB (sgB 1 sk rh mu t) (sgD 1 sk i) c))), (5, vi i), (4, vi an), (3, vi hn), (2, vi 196), (0, vr 175)]) d_Mo_attempt_776 rfl (by decide) ⟨(by omega), (by omega)⟩ rfl ?_
                    refine aw_goto (tgt := 655) d_Mo_attempt_779 (by decide) ?_
                    refine aw_sub (lv' := [(6, vi (c + 1)), (5, vi i), (4, vi an), (3, vi hn), (2, vi 196), (0, vr 175)]) (by simp) ?_
                    exact ih_655 _ (by omega) (c + 1) hn an (a_up K4 (254 + i.toNat) c 0) (by omega) (F4.tr (FR.up (p := fun a => a = 252 ∨ 235 ≤ a ∧ a ≤ 242 ∨ 254 ≤ a ∧ a ≤ 261) (by omega)) (fun a x => ⟨x, x⟩)) (t4.tr (FR.up (p := fun a => a = 254 + i.toNat) rfl) (fun a x => ⟨x, x⟩)) (fun x a b => by by_cases z : x = c; exact (by rw [z, a_up_at, if_neg fy]); exact (by rw [a_up_ne (Or.inr z)]; exact w4 x a (by omega))) (by rw [eN, hIt_n fy]; exact e4) (⟨a4.1, fun z => ⟨(a4.2.1 z).1, fun x a b => by by_cases y : x = c; exact (by rw [y]; exact wn); exact (a4.2.1 z).2 x a (by omega)⟩, fun z => a4.2.2 ⟨z.1, fun x a b => z.2 x a (by omega)⟩⟩) rfl
                  · skip
                    have fy : (sgF 1 sk rh mu t) (256 * i.toNat + c.toNat) = true := fat.2 c_751
                    refine aw_iconst d_Mo_attempt_754 ⟨by decide, by decide⟩ ?_
                    refine aw_goto (tgt := 759) d_Mo_attempt_755 (by decide) ?_
                    refine ax_zast d_Mo_attempt_759 (kr_253 S (by omega)) (by omega) (by omega) (by rw [nr_253 S (by omega)]; omega) (by omega) ?_
                    refine aw_aload_n d_Mo_attempt_760 rfl rfl ?_
                    refine ax_getR (b := 253) d_Mo_attempt_761 fd_Mo_81 (k_175 S) (r_175_29 S) ?_
                    refine aw_iload d_Mo_attempt_764 rfl ?_
                    refine ax_aald (b := 254 + i.toNat) d_Mo_attempt_766 ⟨by rw [(k_253 S)]; decide, by rw [(k_253 S)]; decide⟩ (by omega) (by rw [n_253 S]; omega) (g_253 S (by omega) (by omega)) ?_
                    refine aw_iload d_Mo_attempt_767 rfl ?_
                    refine ax_zalde (x := 1) d_Mo_attempt_769 (kr_253 S (by omega)) (by omega) (by rw [nr_253 S (by omega)]; omega) (a_up_at) ?_
                    refine aw_if_eq (tgt := 776) d_Mo_attempt_770 (by decide) (fun c_770 => False.elim (by omega)) (fun c_770 => ?_)
                    refine ax_iinc (lv' := [(3, vi (hn + 1)), (7, vi (cen (prB (sgB 1 sk rh mu t) (sgD 1 sk i) c))), (6, vi c), (5, vi i), (4, vi an), (2, vi 196), (0, vr 175)]) d_Mo_attempt_773 rfl (by decide) ⟨(by omega), (by omega)⟩ rfl ?_
                    refine ax_iinc (lv' := [(6, vi (c + 1)), (3, vi (hn + 1)), (7, vi (cen (prB (sgB 1 sk rh mu t) (sgD 1 sk i) c))), (5, vi i), (4, vi an), (2, vi 196), (0, vr 175)]) d_Mo_attempt_776 rfl (by decide) ⟨(by omega), (by omega)⟩ rfl ?_
                    refine aw_goto (tgt := 655) d_Mo_attempt_779 (by decide) ?_
                    refine aw_sub (lv' := [(6, vi (c + 1)), (5, vi i), (4, vi an), (3, vi (hn + 1)), (2, vi 196), (0, vr 175)]) (by simp) ?_
                    exact ih_655 _ (by omega) (c + 1) (hn + 1) an (a_up K4 (254 + i.toNat) c 1) (by omega) (F4.tr (FR.up (p := fun a => a = 252 ∨ 235 ≤ a ∧ a ≤ 242 ∨ 254 ≤ a ∧ a ≤ 261) (by omega)) (fun a x => ⟨x, x⟩)) (t4.tr (FR.up (p := fun a => a = 254 + i.toNat) rfl) (fun a x => ⟨x, x⟩)) (fun x a b => by by_cases z : x = c; exact (by rw [z, a_up_at, if_pos fy]); exact (by rw [a_up_ne (Or.inr z)]; exact w4 x a (by omega))) (by rw [eN, hIt_y fy]; show hn + 1 = _ + 1; rw [e4]) (⟨a4.1, fun z => ⟨(a4.2.1 z).1, fun x a b => by by_cases y : x = c; exact (by rw [y]; exact wn); exact (a4.2.1 z).2 x a (by omega)⟩, fun z => a4.2.2 ⟨z.1, fun x a b => z.2 x a (by omega)⟩⟩) rfl
                · skip
                  refine aw_iconst d_Mo_attempt_694 ⟨by decide, by decide⟩ ?_
                  refine aw_istore (lv' := [(4, vi 1), (7, vi (cen (prB (sgB 1 sk rh mu t) (sgD 1 sk i) c))), (6, vi c), (5, vi i), (3, vi hn), (2, vi 196), (0, vr 175)]) d_Mo_attempt_695 (by decide) rfl ?_
                  refine aw_aload_n d_Mo_attempt_697 rfl rfl ?_
                  refine ax_getR (b := 253) d_Mo_attempt_698 fd_Mo_81 (k_175 S) (r_175_29 S) ?_
                  refine aw_iload d_Mo_attempt_701 rfl ?_
                  refine ax_aald (b := 254 + i.toNat) d_Mo_attempt_703 ⟨by rw [(k_253 S)]; decide, by rw [(k_253 S)]; decide⟩ (by omega) (by rw [n_253 S]; omega) (g_253 S (by omega) (by omega)) ?_
                  refine aw_iload d_Mo_attempt_704 rfl ?_
                  refine aw_aload_n d_Mo_attempt_706 rfl rfl ?_
                  refine aw_aload_n d_Mo_attempt_707 rfl rfl ?_
                  refine ax_getR (b := 204) d_Mo_attempt_708 fd_Mo_76 (k_175 S) (r_175_28 S) ?_
                  refine aw_bipush d_Mo_attempt_711 ⟨by decide, by decide⟩ (by decide) ?_
                  refine aw_iload d_Mo_attempt_713 rfl ?_
                  refine ax_iadd d_Mo_attempt_715 ⟨(by omega), (by omega)⟩ ?_
                  refine ax_aald (b := 205 + (30 + i).toNat) d_Mo_attempt_716 ⟨by rw [(k_204 S)]; decide, by rw [(k_204 S)]; decide⟩ (by omega) (by rw [n_204 S]; omega) (g_204 S (by omega) (by omega)) ?_
                  refine aw_iload d_Mo_attempt_717 rfl ?_
                  refine ax_ialde (x := (sgR 1 sk rh mu t) i c) d_Mo_attempt_719 (kr_204 S (by omega)) (by omega) (by rw [nr_204 S (by omega)]; omega) (r4c (by omega)) ?_
                  refine aw_iload d_Mo_attempt_720 rfl ?_
                  refine ax_iadd d_Mo_attempt_722 ⟨(by omega), (by omega)⟩ ?_
                  refine aw_ldcw (n := 8380417) d_Mo_attempt_723 lc_Mo_264 ⟨by decide, by decide⟩ ?_
                  refine ax_iadd d_Mo_attempt_726 ⟨(by omega), (by omega)⟩ ?_
                  refine aw_ldcw (n := 8380417) d_Mo_attempt_727 lc_Mo_264 ⟨by decide, by decide⟩ ?_
                  refine ax_irem d_Mo_attempt_730 (by omega) (by omega) ?_
                  refine ax_ti (x := ((sgR 1 sk rh mu t) i c + (prB (sgB 1 sk rh mu t) (sgD 1 sk i) c)) % 8380417) (cen_a c1 c2) ?_
                  refine ax_V (st := [vi c, vr (254 + i.toNat)]) (as := [vi (((sgR 1 sk rh mu t) i c + (prB (sgB 1 sk rh mu t) (sgD 1 sk i) c)) % 8380417)]) (b := 175) (v := some (vi (dHigh 261888 (((sgR 1 sk rh mu t) i c + (prB (sgB 1 sk rh mu t) (sgD 1 sk i) c)) % 8380417)))) (h' := sD h K4 u_649) d_Mo_attempt_731 cs_Mo_attempt_731 (k_175 S) (by have z := c_Mo_high (l := l) (G := G) (L := u_649) (I := K4) (r := ((sgR 1 sk rh mu t) i c + (prB (sgB 1 sk rh mu t) (sgD 1 sk i) c)) % 8380417) S (by rw [gp4]; decide) (by omega); rw [gp4] at z; exact z) rfl rfl rfl ?_
                  show AW l G M_Mo_attempt P 734 [(4, vi 1), (7, vi (cen (prB (sgB 1 sk rh mu t) (sgD 1 sk i) c))), (6, vi c), (5, vi i), (3, vi hn), (2, vi 196), (0, vr 175)] [vi (dHigh 261888 (((sgR 1 sk rh mu t) i c + (prB (sgB 1 sk rh mu t) (sgD 1 sk i) c)) % 8380417)), vi c, vr (254 + i.toNat)] (sD h K4 u_649)
                  refine aw_aload_n d_Mo_attempt_734 rfl rfl ?_
                  refine aw_aload_n d_Mo_attempt_735 rfl rfl ?_
                  refine ax_getR (b := 204) d_Mo_attempt_736 fd_Mo_76 (k_175 S) (r_175_28 S) ?_
                  refine aw_bipush d_Mo_attempt_739 ⟨by decide, by decide⟩ (by decide) ?_
                  refine aw_iload d_Mo_attempt_741 rfl ?_
                  refine ax_iadd d_Mo_attempt_743 ⟨(by omega), (by omega)⟩ ?_
                  refine ax_aald (b := 205 + (30 + i).toNat) d_Mo_attempt_744 ⟨by rw [(k_204 S)]; decide, by rw [(k_204 S)]; decide⟩ (by omega) (by rw [n_204 S]; omega) (g_204 S (by omega) (by omega)) ?_
                  refine aw_iload d_Mo_attempt_745 rfl ?_
                  refine ax_ialde (x := (sgR 1 sk rh mu t) i c) d_Mo_attempt_747 (kr_204 S (by omega)) (by omega) (by rw [nr_204 S (by omega)]; omega) (r4c (by omega)) ?_
                  refine ax_V (st := [vi (dHigh 261888 (((sgR 1 sk rh mu t) i c + (prB (sgB 1 sk rh mu t) (sgD 1 sk i) c)) % 8380417)), vi c, vr (254 + i.toNat)]) (as := [vi ((sgR 1 sk rh mu t) i c)]) (b := 175) (v := some (vi (dHigh 261888 ((sgR 1 sk rh mu t) i c)))) (h' := sD h K4 u_649) d_Mo_attempt_748 cs_Mo_attempt_748 (k_175 S) (by have z := c_Mo_high (l := l) (G := G) (L := u_649) (I := K4) (r := (sgR 1 sk rh mu t) i c) S (by rw [gp4]; decide) (sgR_in c hc4.1 (by omega)); rw [gp4] at z; exact z) rfl rfl rfl ?_
                  show AW l G M_Mo_attempt P 751 [(4, vi 1), (7, vi (cen (prB (sgB 1 sk rh mu t) (sgD 1 sk i) c))), (6, vi c), (5, vi i), (3, vi hn), (2, vi 196), (0, vr 175)] [vi (dHigh 261888 ((sgR 1 sk rh mu t) i c)), vi (dHigh 261888 (((sgR 1 sk rh mu t) i c + (prB (sgB 1 sk rh mu t) (sgD 1 sk i) c)) % 8380417)), vi c, vr (254 + i.toNat)] (sD h K4 u_649)
                  refine aw_icmp_eq (tgt := 758) d_Mo_attempt_751 (by decide) (fun c_751 => ?_) (fun c_751 => ?_)
                  · skip
                    have fy : ¬ (sgF 1 sk rh mu t) (256 * i.toNat + c.toNat) = true := fun z => fat.1 z c_751
                    refine aw_iconst d_Mo_attempt_758 ⟨by decide, by decide⟩ ?_
                    refine ax_zast d_Mo_attempt_759 (kr_253 S (by omega)) (by omega) (by omega) (by rw [nr_253 S (by omega)]; omega) (by omega) ?_
                    refine aw_aload_n d_Mo_attempt_760 rfl rfl ?_
                    refine ax_getR (b := 253) d_Mo_attempt_761 fd_Mo_81 (k_175 S) (r_175_29 S) ?_
                    refine aw_iload d_Mo_attempt_764 rfl ?_
                    refine ax_aald (b := 254 + i.toNat) d_Mo_attempt_766 ⟨by rw [(k_253 S)]; decide, by rw [(k_253 S)]; decide⟩ (by omega) (by rw [n_253 S]; omega) (g_253 S (by omega) (by omega)) ?_
                    refine aw_iload d_Mo_attempt_767 rfl ?_
                    refine ax_zalde (x := 0) d_Mo_attempt_769 (kr_253 S (by omega)) (by omega) (by rw [nr_253 S (by omega)]; omega) (a_up_at) ?_
                    refine aw_if_eq (tgt := 776) d_Mo_attempt_770 (by decide) (fun c_770 => ?_) (fun c_770 => False.elim (by omega))
                    refine ax_iinc (lv' := [(6, vi (c + 1)), (4, vi 1), (7, vi (cen (prB (sgB 1 sk rh mu t) (sgD 1 sk i) c))), (5, vi i), (3, vi hn), (2, vi 196), (0, vr 175)]) d_Mo_attempt_776 rfl (by decide) ⟨(by omega), (by omega)⟩ rfl ?_
                    refine aw_goto (tgt := 655) d_Mo_attempt_779 (by decide) ?_
                    refine aw_sub (lv' := [(6, vi (c + 1)), (5, vi i), (4, vi 1), (3, vi hn), (2, vi 196), (0, vr 175)]) (by simp) ?_
                    exact ih_655 _ (by omega) (c + 1) hn 1 (a_up K4 (254 + i.toNat) c 0) (by omega) (F4.tr (FR.up (p := fun a => a = 252 ∨ 235 ≤ a ∧ a ≤ 242 ∨ 254 ≤ a ∧ a ≤ 261) (by omega)) (fun a x => ⟨x, x⟩)) (t4.tr (FR.up (p := fun a => a = 254 + i.toNat) rfl) (fun a x => ⟨x, x⟩)) (fun x a b => by by_cases z : x = c; exact (by rw [z, a_up_at, if_neg fy]); exact (by rw [a_up_ne (Or.inr z)]; exact w4 x a (by omega))) (by rw [eN, hIt_n fy]; exact e4) (⟨Or.inr rfl, fun z => absurd z (by decide), fun z => by have y := z.2 c hc4.1 (by omega); unfold cen at *; (repeat (first | omega | split at *))⟩) rfl
                  · skip
                    have fy : (sgF 1 sk rh mu t) (256 * i.toNat + c.toNat) = true := fat.2 c_751
                    refine aw_iconst d_Mo_attempt_754 ⟨by decide, by decide⟩ ?_
                    refine aw_goto (tgt := 759) d_Mo_attempt_755 (by decide) ?_
                    refine ax_zast d_Mo_attempt_759 (kr_253 S (by omega)) (by omega) (by omega) (by rw [nr_253 S (by omega)]; omega) (by omega) ?_
                    refine aw_aload_n d_Mo_attempt_760 rfl rfl ?_
                    refine ax_getR (b := 253) d_Mo_attempt_761 fd_Mo_81 (k_175 S) (r_175_29 S) ?_
                    refine aw_iload d_Mo_attempt_764 rfl ?_
                    refine ax_aald (b := 254 + i.toNat) d_Mo_attempt_766 ⟨by rw [(k_253 S)]; decide, by rw [(k_253 S)]; decide⟩ (by omega) (by rw [n_253 S]; omega) (g_253 S (by omega) (by omega)) ?_
                    refine aw_iload d_Mo_attempt_767 rfl ?_
                    refine ax_zalde (x := 1) d_Mo_attempt_769 (kr_253 S (by omega)) (by omega) (by rw [nr_253 S (by omega)]; omega) (a_up_at) ?_
                    refine aw_if_eq (tgt := 776) d_Mo_attempt_770 (by decide) (fun c_770 => False.elim (by omega)) (fun c_770 => ?_)
                    refine ax_iinc (lv' := [(3, vi (hn + 1)), (4, vi 1), (7, vi (cen (prB (sgB 1 sk rh mu t) (sgD 1 sk i) c))), (6, vi c), (5, vi i), (2, vi 196), (0, vr 175)]) d_Mo_attempt_773 rfl (by decide) ⟨(by omega), (by omega)⟩ rfl ?_
                    refine ax_iinc (lv' := [(6, vi (c + 1)), (3, vi (hn + 1)), (4, vi 1), (7, vi (cen (prB (sgB 1 sk rh mu t) (sgD 1 sk i) c))), (5, vi i), (2, vi 196), (0, vr 175)]) d_Mo_attempt_776 rfl (by decide) ⟨(by omega), (by omega)⟩ rfl ?_
                    refine aw_goto (tgt := 655) d_Mo_attempt_779 (by decide) ?_
                    refine aw_sub (lv' := [(6, vi (c + 1)), (5, vi i), (4, vi 1), (3, vi (hn + 1)), (2, vi 196), (0, vr 175)]) (by simp) ?_
                    exact ih_655 _ (by omega) (c + 1) (hn + 1) 1 (a_up K4 (254 + i.toNat) c 1) (by omega) (F4.tr (FR.up (p := fun a => a = 252 ∨ 235 ≤ a ∧ a ≤ 242 ∨ 254 ≤ a ∧ a ≤ 261) (by omega)) (fun a x => ⟨x, x⟩)) (t4.tr (FR.up (p := fun a => a = 254 + i.toNat) rfl) (fun a x => ⟨x, x⟩)) (fun x a b => by by_cases z : x = c; exact (by rw [z, a_up_at, if_pos fy]); exact (by rw [a_up_ne (Or.inr z)]; exact w4 x a (by omega))) (by rw [eN, hIt_y fy]; show hn + 1 = _ + 1; rw [e4]) (⟨Or.inr rfl, fun z => absurd z (by decide), fun z => by have y := z.2 c hc4.1 (by omega); unfold cen at *; (repeat (first | omega | split at *))⟩) rfl
          skip
          exact lp_655 _ 0 hn an3 (rowTo K3 252 256 (few (K3 251) (K3 (205 + (15 + i).toNat)))) (by omega) (F3.tr (FR.row (p := fun a => a = 252 ∨ 235 ≤ a ∧ a ≤ 242 ∨ 254 ≤ a ∧ a ≤ 261) (by omega) l2) (fun a x => ⟨x, x⟩)) (FR.rfl') (fun x a b => by omega) (e2) (⟨a3.1, fun z => ⟨z, fun x a b => by omega⟩, fun z => z.1⟩) rfl
        · skip
          have c1 := prB_in (B := (sgB 1 sk rh mu t)) (V := (sgV 1 sk (5 + i))) c hc.1 (by omega)
          have c2 := imF_in (A := sgA 1 sk) (V := fun j => fwd rt (sgM 1 rh (t * pL 1 + j))) (l := pL 1) (n := (pL 1).toNat) (m := i) c hc.1 (by omega)
          have c3 := cen_b c1
          have c2 : 0 ≤ (sgW 1 sk rh t) i c ∧ (sgW 1 sk rh t) i c < 8380417 := c2
          refine aw_aload_n d_Mo_attempt_529 rfl rfl ?_
          refine ax_getR (b := 204) d_Mo_attempt_530 fd_Mo_76 (k_175 S) (r_175_28 S) ?_
          refine aw_bipush d_Mo_attempt_533 ⟨by decide, by decide⟩ (by decide) ?_
          refine aw_iload d_Mo_attempt_535 rfl ?_
          refine ax_iadd d_Mo_attempt_537 ⟨(by omega), (by omega)⟩ ?_
          refine ax_aald (b := 205 + (30 + i).toNat) d_Mo_attempt_538 ⟨by rw [(k_204 S)]; decide, by rw [(k_204 S)]; decide⟩ (by omega) (by rw [n_204 S]; omega) (g_204 S (by omega) (by omega)) ?_
          refine aw_iload d_Mo_attempt_539 rfl ?_
          refine aw_aload_n d_Mo_attempt_541 rfl rfl ?_
          refine ax_getR (b := 204) d_Mo_attempt_542 fd_Mo_76 (k_175 S) (r_175_28 S) ?_
          refine aw_bipush d_Mo_attempt_545 ⟨by decide, by decide⟩ (by decide) ?_
          refine aw_iload d_Mo_attempt_547 rfl ?_
          refine ax_iadd d_Mo_attempt_549 ⟨(by omega), (by omega)⟩ ?_
          refine ax_aald (b := 205 + (30 + i).toNat) d_Mo_attempt_550 ⟨by rw [(k_204 S)]; decide, by rw [(k_204 S)]; decide⟩ (by omega) (by rw [n_204 S]; omega) (g_204 S (by omega) (by omega)) ?_
          refine aw_iload d_Mo_attempt_551 rfl ?_
          refine ax_ialde (x := (sgW 1 sk rh t) i c) d_Mo_attempt_553 (kr_204 S (by omega)) (by omega) (by rw [nr_204 S (by omega)]; omega) (r3.2 c (Int.le_refl _) (by omega)) ?_
          refine aw_aload_n d_Mo_attempt_554 rfl rfl ?_
          refine ax_getR (b := 204) d_Mo_attempt_555 fd_Mo_76 (k_175 S) (r_175_28 S) ?_
          refine aw_bipush d_Mo_attempt_558 ⟨by decide, by decide⟩ (by decide) ?_
          refine ax_aald (b := 252) d_Mo_attempt_560 ⟨by rw [(k_204 S)]; decide, by rw [(k_204 S)]; decide⟩ (by omega) (by rw [n_204 S]; omega) (g_204 S (j := 47) (by decide) (by decide)) ?_
          refine aw_iload d_Mo_attempt_561 rfl ?_
          refine ax_ialde (x := cen (prB (sgB 1 sk rh mu t) (sgV 1 sk (5 + i)) c)) d_Mo_attempt_563 (k_252 S) (by omega) (by rw [n_252 S]; omega) (p3 (by omega)) ?_
          refine ax_isub d_Mo_attempt_564 ⟨(by omega), (by omega)⟩ ?_
          refine aw_ldcw (n := 8380417) d_Mo_attempt_565 lc_Mo_264 ⟨by decide, by decide⟩ ?_
          refine ax_iadd d_Mo_attempt_568 ⟨(by omega), (by omega)⟩ ?_
          refine aw_ldcw (n := 8380417) d_Mo_attempt_569 lc_Mo_264 ⟨by decide, by decide⟩ ?_
          refine ax_irem d_Mo_attempt_572 (by omega) (by omega) ?_
          refine ax_ti (x := (sgR 1 sk rh mu t) i c) (by unfold sgR; rw [show pL 1 = 5 from rfl]; exact cen_s c1 c2) ?_
          refine ax_iast d_Mo_attempt_573 (kr_204 S (by omega)) (by omega) (by omega) (by rw [nr_204 S (by omega)]; omega) ?_
          refine aw_aload_n d_Mo_attempt_574 rfl rfl ?_
          refine aw_aload_n d_Mo_attempt_575 rfl rfl ?_
          refine ax_getR (b := 204) d_Mo_attempt_576 fd_Mo_76 (k_175 S) (r_175_28 S) ?_
          refine aw_bipush d_Mo_attempt_579 ⟨by decide, by decide⟩ (by decide) ?_
          refine aw_iload d_Mo_attempt_581 rfl ?_
          refine ax_iadd d_Mo_attempt_583 ⟨(by omega), (by omega)⟩ ?_
          refine ax_aald (b := 205 + (30 + i).toNat) d_Mo_attempt_584 ⟨by rw [(k_204 S)]; decide, by rw [(k_204 S)]; decide⟩ (by omega) (by rw [n_204 S]; omega) (g_204 S (by omega) (by omega)) ?_
          refine aw_iload d_Mo_attempt_585 rfl ?_
          refine ax_ialde (x := (sgR 1 sk rh mu t) i c) d_Mo_attempt_587 (kr_204 S (by omega)) (by omega) (by rw [nr_204 S (by omega)]; omega) (a_up_at) ?_
          refine ax_V (st := []) (as := [vi ((sgR 1 sk rh mu t) i c)]) (b := 175) (v := some (vi (dLow 261888 ((sgR 1 sk rh mu t) i c)))) (h' := sD h (a_up K3 (205 + (30 + i).toNat) c ((sgR 1 sk rh mu t) i c)) u_515) d_Mo_attempt_588 cs_Mo_attempt_588 (k_175 S) (by have z := c_Mo_low (l := l) (G := G) (L := u_515) (I := a_up K3 (205 + (30 + i).toNat) c ((sgR 1 sk rh mu t) i c)) (r := (sgR 1 sk rh mu t) i c) S (by rw [a_up_ne (Or.inl (by omega)), gp3]; decide) (sgR_in c hc.1 (by omega)); rw [a_up_ne (Or.inl (by omega)), gp3] at z; exact z) rfl rfl rfl ?_
          show AW l G M_Mo_attempt P 591 [(6, vi c), (5, vi i), (4, vi an3), (3, vi hn), (2, vi 196), (0, vr 175)] [vi (dLow 261888 ((sgR 1 sk rh mu t) i c))] (sD h (a_up K3 (205 + (30 + i).toNat) c ((sgR 1 sk rh mu t) i c)) u_515)
          refine aw_istore (lv' := [(7, vi (dLow 261888 ((sgR 1 sk rh mu t) i c))), (6, vi c), (5, vi i), (4, vi an3), (3, vi hn), (2, vi 196), (0, vr 175)]) d_Mo_attempt_591 (by decide) rfl ?_
          refine aw_iload d_Mo_attempt_593 rfl ?_
          refine aw_aload_n d_Mo_attempt_595 rfl rfl ?_
          refine ax_getIe (x := 261888) d_Mo_attempt_596 fd_Mo_242 (k_175 S) (Eq.trans (a_up_ne (Or.inl (by omega))) (Eq.trans (F3.1 175 36 (by omega) (Or.inr (by decide))) (dr1_36 D))) ?_
          refine aw_iload_n d_Mo_attempt_599 rfl rfl ?_
          refine ax_isub d_Mo_attempt_600 ⟨(by omega), (by omega)⟩ ?_
          refine ax_ti (x := 261692) (by decide) ?_
          refine aw_icmp_ge (tgt := 615) d_Mo_attempt_601 (by decide) (fun c_601 => ?_) (fun c_601 => ?_)
          · skip
            refine aw_iconst d_Mo_attempt_615 ⟨by decide, by decide⟩ ?_
            refine aw_istore (lv' := [(4, vi 1), (7, vi (dLow 261888 ((sgR 1 sk rh mu t) i c))), (6, vi c), (5, vi i), (3, vi hn), (2, vi 196), (0, vr 175)]) d_Mo_attempt_616 (by decide) rfl ?_
            refine ax_iinc (lv' := [(6, vi (c + 1)), (4, vi 1), (7, vi (dLow 261888 ((sgR 1 sk rh mu t) i c))), (5, vi i), (3, vi hn), (2, vi 196), (0, vr 175)]) d_Mo_attempt_618 rfl (by decide) ⟨(by omega), (by omega)⟩ rfl ?_
            refine aw_goto (tgt := 521) d_Mo_attempt_621 (by decide) ?_
            refine aw_sub (lv' := [(6, vi (c + 1)), (5, vi i), (4, vi 1), (3, vi hn), (2, vi 196), (0, vr 175)]) (by simp) ?_
            exact ih_521 _ (by omega) (c + 1) 1 (a_up K3 (205 + (30 + i).toNat) c ((sgR 1 sk rh mu t) i c)) (by omega) (F3.tr (FR.up (p := fun a => a = 252 ∨ 235 ≤ a ∧ a ≤ 242 ∨ 254 ≤ a ∧ a ≤ 261) (by omega)) (fun a x => ⟨x, x⟩)) (t3.tr (FR.up (p := fun a => a = 205 + (30 + i).toNat) rfl) (fun a x => ⟨x, x⟩)) (⟨fun x a b => by by_cases z : x = c; exact (by rw [z, a_up_at]); exact (by rw [a_up_ne (Or.inr z)]; exact r3.1 x a (by omega)), fun x a b => by rw [a_up_ne (Or.inr (by omega))]; exact r3.2 x (by omega) b⟩) (⟨Or.inr rfl, fun z => absurd z (by decide), fun z => by have := z.2 c hc.1 (by omega); omega⟩) rfl
          · skip
            refine aw_iload d_Mo_attempt_604 rfl ?_
            refine aw_iload_n d_Mo_attempt_606 rfl rfl ?_
            refine aw_aload_n d_Mo_attempt_607 rfl rfl ?_
            refine ax_getIe (x := 261888) d_Mo_attempt_608 fd_Mo_242 (k_175 S) (Eq.trans (a_up_ne (Or.inl (by omega))) (Eq.trans (F3.1 175 36 (by omega) (Or.inr (by decide))) (dr1_36 D))) ?_
            refine ax_isub d_Mo_attempt_611 ⟨(by omega), (by omega)⟩ ?_
            refine ax_ti (x := -261692) (by decide) ?_
            refine aw_icmp_gt (tgt := 618) d_Mo_attempt_612 (by decide) (fun c_612 => ?_) (fun c_612 => ?_)
            · skip
              refine ax_iinc (lv' := [(6, vi (c + 1)), (7, vi (dLow 261888 ((sgR 1 sk rh mu t) i c))), (5, vi i), (4, vi an3), (3, vi hn), (2, vi 196), (0, vr 175)]) d_Mo_attempt_618 rfl (by decide) ⟨(by omega), (by omega)⟩ rfl ?_
              refine aw_goto (tgt := 521) d_Mo_attempt_621 (by decide) ?_
              refine aw_sub (lv' := [(6, vi (c + 1)), (5, vi i), (4, vi an3), (3, vi hn), (2, vi 196), (0, vr 175)]) (by simp) ?_
              exact ih_521 _ (by omega) (c + 1) an3 (a_up K3 (205 + (30 + i).toNat) c ((sgR 1 sk rh mu t) i c)) (by omega) (F3.tr (FR.up (p := fun a => a = 252 ∨ 235 ≤ a ∧ a ≤ 242 ∨ 254 ≤ a ∧ a ≤ 261) (by omega)) (fun a x => ⟨x, x⟩)) (t3.tr (FR.up (p := fun a => a = 205 + (30 + i).toNat) rfl) (fun a x => ⟨x, x⟩)) (⟨fun x a b => by by_cases z : x = c; exact (by rw [z, a_up_at]); exact (by rw [a_up_ne (Or.inr z)]; exact r3.1 x a (by omega)), fun x a b => by rw [a_up_ne (Or.inr (by omega))]; exact r3.2 x (by omega) b⟩) (⟨a3.1, fun z => ⟨(a3.2.1 z).1, fun x a b => by by_cases y : x = c; exact (by rw [y]; omega); exact (a3.2.1 z).2 x a (by omega)⟩, fun z => a3.2.2 ⟨z.1, fun x a b => z.2 x a (by omega)⟩⟩) rfl
            · skip
              refine aw_iconst d_Mo_attempt_615 ⟨by decide, by decide⟩ ?_
              refine aw_istore (lv' := [(4, vi 1), (7, vi (dLow 261888 ((sgR 1 sk rh mu t) i c))), (6, vi c), (5, vi i), (3, vi hn), (2, vi 196), (0, vr 175)]) d_Mo_attempt_616 (by decide) rfl ?_
              refine ax_iinc (lv' := [(6, vi (c + 1)), (4, vi 1), (7, vi (dLow 261888 ((sgR 1 sk rh mu t) i c))), (5, vi i), (3, vi hn), (2, vi 196), (0, vr 175)]) d_Mo_attempt_618 rfl (by decide) ⟨(by omega), (by omega)⟩ rfl ?_
              refine aw_goto (tgt := 521) d_Mo_attempt_621 (by decide) ?_
              refine aw_sub (lv' := [(6, vi (c + 1)), (5, vi i), (4, vi 1), (3, vi hn), (2, vi 196), (0, vr 175)]) (by simp) ?_
              exact ih_521 _ (by omega) (c + 1) 1 (a_up K3 (205 + (30 + i).toNat) c ((sgR 1 sk rh mu t) i c)) (by omega) (F3.tr (FR.up (p := fun a => a = 252 ∨ 235 ≤ a ∧ a ≤ 242 ∨ 254 ≤ a ∧ a ≤ 261) (by omega)) (fun a x => ⟨x, x⟩)) (t3.tr (FR.up (p := fun a => a = 205 + (30 + i).toNat) rfl) (fun a x => ⟨x, x⟩)) (⟨fun x a b => by by_cases z : x = c; exact (by rw [z, a_up_at]); exact (by rw [a_up_ne (Or.inr z)]; exact r3.1 x a (by omega)), fun x a b => by rw [a_up_ne (Or.inr (by omega))]; exact r3.2 x (by omega) b⟩) (⟨Or.inr rfl, fun z => absurd z (by decide), fun z => by have := z.2 c hc.1 (by omega); omega⟩) rfl
      skip
      exact lp_521 _ 0 an (rowTo K2 252 256 (few (K2 251) (K2 (205 + (5 + i).toNat)))) (by omega) (F2.tr (FR.row (p := fun a => a = 252 ∨ 235 ≤ a ∧ a ≤ 242 ∨ 254 ≤ a ∧ a ≤ 261) (by omega) l1) (fun a x => ⟨x, x⟩)) (FR.rfl') (⟨fun x a b => by omega, fun x a b => by rw [rowTo_ne (by omega)]; exact td i hi.1 (Int.le_refl _) (by omega) x a b⟩) (⟨a2.1, fun z => ⟨z, fun x a b => by omega⟩, fun z => z.1⟩) rfl
  skip
  exact lp_479 _ 0 0 0 K M (by omega) (FR.rfl') (fun m a b => by omega) (fun m a b => hW m a) (fun m a b => by omega) (rfl) (⟨Or.inl rfl, fun _ m a b => by omega, fun _ => rfl⟩) rfl
set_option maxHeartbeats 4000000 in
set_option maxRecDepth 100000 in
theorem aF2 {l : Launch} {G : a_G} {P : a_R → Hp → Prop} {h : Hp} {K0 M0 K M : Nat → Int → Int} {sk rh mu : Int → Int} {t : Int} (S : Shp h) (D0 : RD K0 M0 2) (hk0 : HR K0 180 0 4896 sk) (km : ∀ x, sk x % 256 = sk x) (hr0 : HR K0 266 0 64 rh) (rm0 : ∀ x, rh x % 256 = rh x) (hm0 : HR K0 265 0 64 mu) (mm0 : ∀ x, mu x % 256 = mu x) (hS0 : ∀ m, 0 ≤ m → m < 15 → eqQ (K0 (205 + m.toNat)) (sgSs 2 sk m)) (hD0 : ∀ m, 0 ≤ m → m < 8 → eqQ (K0 (205 + (15 + m).toNat)) (sgDs 2 sk m)) (ht : 0 ≤ t ∧ t < 814) (F0 : FR pAt K0 M0 K M) (okk : (sgOk 2 sk ∧ bll 60 (sgBs 2 sk rh mu t) ≠ none)) (gd : (sgGood 2 sk rh mu t)) (hch : HR K 267 0 64 (sgC 2 sk rh mu t)) (hz : ∀ m, 0 ≤ m → m < 7 → ∀ j, 0 ≤ j → j < 256 → 524288 - K (205 + (23 + m).toNat) j = (524288 - (sgZ 2 sk rh mu t) m j) % 8380417) (hh : ∀ m : Int, 0 ≤ m → m < 8 → ∀ j : Int, 0 ≤ j → j < 256 → K (254 + m.toNat) j = (if (sgF 2 sk rh mu t) (256 * m.toNat + j.toNat) = true then 1 else 0)) (hP : ∀ r_ h2_, RaR h K0 M0 pAt (sgOk 2 sk ∧ bll 60 (sgBs 2 sk rh mu t) ≠ none) (sgGood 2 sk rh mu t) 4627 (sgPk 2 sk rh mu t) r_ h2_ → P r_ h2_) : AW l G M_Mo_attempt P 803 [(0, vr 175)] [] (sD h K M) := by
  have D := D0.fr F0 (by decide)
  have gw : (hIt (sgF 2 sk rh mu t) 2048).1 ≤ 75 := gd.2.2.2
  refine aw_aload_n d_Mo_attempt_803 rfl rfl ?_
  refine ax_getR (b := 267) d_Mo_attempt_804 fd_Mo_99 (k_175 S) (r_175_43 S) ?_
  refine aw_iconst d_Mo_attempt_807 ⟨by decide, by decide⟩ ?_
  refine aw_aload_n d_Mo_attempt_808 rfl rfl ?_
  refine ax_getR (b := 263) d_Mo_attempt_809 fd_Mo_87 (k_175 S) (r_175_31 S) ?_
  refine aw_iconst d_Mo_attempt_812 ⟨by decide, by decide⟩ ?_
  refine aw_aload_n d_Mo_attempt_813 rfl rfl ?_
  refine ax_getIe (x := 64) d_Mo_attempt_814 fd_Mo_248 (k_175 S) (dr2_38 D) ?_
  refine ax_S (st := []) (as := [vr 267, vi 0, vr 263, vi 0, vi 64]) (v := none) (h' := sD h (putRow K 263 0 64 (fun k => K 267 (0 + k))) M) d_Mo_attempt_817 cs_Mo_attempt_817 (c_Mo_move ⟨k_267 S, by decide⟩ ⟨k_263 S, by decide, trivial⟩ (by decide) (by rw [n_267 S, n_263 S]; omega)) rfl rfl rfl ?_
  show AW l G M_Mo_attempt P 820 [(0, vr 175)] [] (sD h (putRow K 263 0 64 (fun k => K 267 (0 + k))) M)
  refine aw_aload_n d_Mo_attempt_820 rfl rfl ?_
  refine aw_iconst d_Mo_attempt_821 ⟨by decide, by decide⟩ ?_
  refine ax_putI d_Mo_attempt_822 fd_Mo_216 (k_175 S) (by decide) rfl ?_
  refine aw_iconst d_Mo_attempt_825 ⟨by decide, by decide⟩ ?_
  refine aw_istore (lv' := [(5, vi 0), (0, vr 175)]) d_Mo_attempt_826 (by decide) rfl ?_
  have lp_828 : ∀ (n_ : Nat) (i : Int) (K2 : Nat → Int → Int), (0 ≤ i ∧ i ≤ 7) → (FR (fun a => a = 263) K M K2 M) → (K2 175 23 = 8 * (640 * i)) → (HR K2 263 0 (64 + 640 * i) (sgPk 2 sk rh mu t)) → ((7 - i).toNat) = n_ → AW l G M_Mo_attempt P 828 [(5, vi i), (0, vr 175)] [] (sD h K2 M) := by
    intro n_
    induction n_ using Nat.strongRecOn with
    | _ n_ ih_828 =>
    intro i K2 hi F2 b2 h2 hm_828
    refine aw_iload d_Mo_attempt_828 rfl ?_
    refine aw_aload_n d_Mo_attempt_830 rfl rfl ?_
    refine ax_getIe (x := 7) d_Mo_attempt_831 fd_Mo_226 (k_175 S) (Eq.trans (F2.1 175 32 (by omega) (Or.inr (by decide))) (dr2_32 D)) ?_
    refine aw_icmp_ge (tgt := 873) d_Mo_attempt_834 (by decide) (fun c_834 => ?_) (fun c_834 => ?_)
    · skip
      refine aw_aload_n d_Mo_attempt_873 rfl rfl ?_
      refine ax_getIe (x := 64) d_Mo_attempt_874 fd_Mo_248 (k_175 S) (Eq.trans (F2.1 175 38 (by omega) (Or.inr (by decide))) (dr2_38 D)) ?_
      refine aw_bipush d_Mo_attempt_877 ⟨by decide, by decide⟩ (by decide) ?_
      refine aw_aload_n d_Mo_attempt_879 rfl rfl ?_
      refine ax_getIe (x := 7) d_Mo_attempt_880 fd_Mo_226 (k_175 S) (Eq.trans (F2.1 175 32 (by omega) (Or.inr (by decide))) (dr2_32 D)) ?_
      refine ax_imul d_Mo_attempt_883 ⟨(by omega), (by omega)⟩ ?_
      refine ax_ti (x := 224) (by decide) ?_
      refine aw_aload_n d_Mo_attempt_884 rfl rfl ?_
      refine ax_getIe (x := 20) d_Mo_attempt_885 fd_Mo_251 (k_175 S) (Eq.trans (F2.1 175 39 (by omega) (Or.inr (by decide))) (dr2_39 D)) ?_
      refine ax_imul d_Mo_attempt_888 ⟨(by omega), (by omega)⟩ ?_
      refine ax_ti (x := 4480) (by decide) ?_
      refine ax_iadd d_Mo_attempt_889 ⟨(by omega), (by omega)⟩ ?_
      refine ax_ti (x := 4544) (by decide) ?_
      refine aw_istore (lv' := [(5, vi 4544), (0, vr 175)]) d_Mo_attempt_890 (by decide) rfl ?_
      refine aw_iconst d_Mo_attempt_892 ⟨by decide, by decide⟩ ?_
      refine aw_istore (lv' := [(6, vi 0), (5, vi 4544), (0, vr 175)]) d_Mo_attempt_893 (by decide) rfl ?_
      refine aw_iconst d_Mo_attempt_895 ⟨by decide, by decide⟩ ?_
      refine aw_istore (lv' := [(7, vi 0), (6, vi 0), (5, vi 4544), (0, vr 175)]) d_Mo_attempt_896 (by decide) rfl ?_
      have lp_898 : ∀ (n_ : Nat) (i : Int) (K3 : Nat → Int → Int), (0 ≤ i ∧ i ≤ 75) → (FR (fun a => a = 263) K M K3 M) → (HR K3 263 0 4544 (sgPk 2 sk rh mu t)) → (∀ x, 0 ≤ x → x < i → K3 263 (4544 + x) = 0) → ((75 - i).toNat) = n_ → AW l G M_Mo_attempt P 898 [(7, vi i), (6, vi 0), (5, vi 4544), (0, vr 175)] [] (sD h K3 M) := by
        intro n_
        induction n_ using Nat.strongRecOn with
        | _ n_ ih_898 =>
        intro i K3 hi3 F3 h3 z3 hm_898
        refine aw_iload d_Mo_attempt_898 rfl ?_
        refine aw_aload_n d_Mo_attempt_900 rfl rfl ?_
        refine ax_getIe (x := 75) d_Mo_attempt_901 fd_Mo_245 (k_175 S) (Eq.trans (F3.1 175 37 (by omega) (Or.inr (by decide))) (dr2_37 D)) ?_
        refine aw_icmp_ge (tgt := 924) d_Mo_attempt_904 (by decide) (fun c_904 => ?_) (fun c_904 => ?_)
        · skip
          refine aw_iconst d_Mo_attempt_924 ⟨by decide, by decide⟩ ?_
          refine aw_istore (lv' := [(7, vi 0), (6, vi 0), (5, vi 4544), (0, vr 175)]) d_Mo_attempt_925 (by decide) rfl ?_
          have lp_927 : ∀ (n_ : Nat) (i : Int) (nn : Int) (K4 : Nat → Int → Int), (0 ≤ i ∧ i ≤ 8) → (FR (fun a => a = 263) K M K4 M) → (HR K4 263 0 4544 (sgPk 2 sk rh mu t)) → (nn = (hIt (sgF 2 sk rh mu t) (256 * i.toNat + (0 : Int).toNat)).1) → ((∀ x, 0 ≤ x → x < nn → K4 263 (4544 + x) % 256 = (hIt (sgF 2 sk rh mu t) (256 * i.toNat + (0 : Int).toNat)).2 x) ∧ (∀ x, nn ≤ x → x < 75 → K4 263 (4544 + x) = 0)) → (∀ m, 0 ≤ m → m < i → K4 263 (4619 + m) % 256 = (hIt (sgF 2 sk rh mu t) (256 * m.toNat + 256)).1) → ((8 - i).toNat) = n_ → AW l G M_Mo_attempt P 927 [(7, vi i), (6, vi nn), (5, vi 4544), (0, vr 175)] [] (sD h K4 M) := by
            intro n_
            induction n_ using Nat.strongRecOn with
            | _ n_ ih_927 =>
            intro i nn K4 hi4 F4 h4 e4 z4 n4 hm_927
            refine aw_iload d_Mo_attempt_927 rfl ?_
            refine aw_aload_n d_Mo_attempt_929 rfl rfl ?_
            refine ax_getIe (x := 8) d_Mo_attempt_930 fd_Mo_223 (k_175 S) (Eq.trans (F4.1 175 26 (by omega) (Or.inr (by decide))) (dr2_26 D)) ?_
            refine aw_icmp_ge (tgt := 1006) d_Mo_attempt_933 (by decide) (fun c_933 => ?_) (fun c_933 => ?_)
            · skip
              refine aw_iconst d_Mo_attempt_1006 ⟨by decide, by decide⟩ ?_
              exact aw_iret d_Mo_attempt_1007 rfl (hP _ _ ⟨_, K4, M, rfl, rfl, F0.tr F4 (by intro a x; exact ⟨x, by have x2 := x; show ¬ a = 263; intro z; exact x (by omega)⟩), Or.inr (Or.inr ⟨rfl, okk, gd, fun z x y => by by_cases v1 : z < 4544; exact h4 z x v1; rw [show sgPk 2 sk rh mu t z = pcB2 (sgC 2 sk rh mu t) (sgZ 2 sk rh mu t) (sgF 2 sk rh mu t) z from rfl]; unfold pcB2; rw [if_neg (by omega), if_neg (by omega)]; by_cases v2 : z < 4619; exact (by rw [if_pos v2]; have eC : (hIt (sgF 2 sk rh mu t) (256 * i.toNat + (0 : Int).toNat)) = hIt (sgF 2 sk rh mu t) 2048 := (by rw [show 256 * i.toNat + (0 : Int).toNat = 2048 by omega]); rw [eC] at z4 e4; by_cases v3 : z - 4544 < (hIt (sgF 2 sk rh mu t) 2048).1; exact (by rw [if_pos v3]; have q_ := z4.1 (z - 4544) (by omega) (by omega); rwa [show (4544 + (z - 4544) : Int) = 0 + z by omega] at q_); exact (by rw [if_neg v3]; have q_ := z4.2 (z - 4544) (by omega) (by omega); rw [show (4544 + (z - 4544) : Int) = 0 + z by omega] at q_; rw [q_]; rfl)); exact (by rw [if_neg v2]; have q_ := n4 (z - 4619) (by omega) (by omega); rwa [show (4619 + (z - 4619) : Int) = 0 + z by omega] at q_)⟩)⟩)
            · skip
              refine aw_iconst d_Mo_attempt_936 ⟨by decide, by decide⟩ ?_
              refine aw_istore (lv' := [(8, vi 0), (7, vi i), (6, vi nn), (5, vi 4544), (0, vr 175)]) d_Mo_attempt_937 (by decide) rfl ?_
              have lp_939 : ∀ (n_ : Nat) (c : Int) (nn : Int) (K5 : Nat → Int → Int), (0 ≤ c ∧ c ≤ 256) → (FR (fun a => a = 263) K M K5 M) → (HR K5 263 0 4544 (sgPk 2 sk rh mu t)) → (nn = (hIt (sgF 2 sk rh mu t) (256 * i.toNat + c.toNat)).1) → ((∀ x, 0 ≤ x → x < nn → K5 263 (4544 + x) % 256 = (hIt (sgF 2 sk rh mu t) (256 * i.toNat + c.toNat)).2 x) ∧ (∀ x, nn ≤ x → x < 75 → K5 263 (4544 + x) = 0)) → (∀ m, 0 ≤ m → m < i → K5 263 (4619 + m) % 256 = (hIt (sgF 2 sk rh mu t) (256 * m.toNat + 256)).1) → ((256 - c).toNat) = n_ → AW l G M_Mo_attempt P 939 [(8, vi c), (7, vi i), (6, vi nn), (5, vi 4544), (0, vr 175)] [] (sD h K5 M) := by
                intro n_
                induction n_ using Nat.strongRecOn with
                | _ n_ ih_939 =>
                intro c nn K5 hc F5 h5 e5 z5 n5 hm_939
                have hq : c < 256 → K5 (254 + i.toNat) c = (if (sgF 2 sk rh mu t) (256 * i.toNat + c.toNat) = true then 1 else 0) := fun v => by rw [F5.1 _ _ (by omega) (Or.inl (by omega))]; exact hh i hi4.1 (by omega) c hc.1 v
                have m0 := hIt_0 (fl := (sgF 2 sk rh mu t)) (256 * i.toNat + c.toNat)
                have m1 := hIt_mono (fl := (sgF 2 sk rh mu t)) (a := 256 * i.toNat + c.toNat) (b := 2048) (by omega)
                refine aw_iload d_Mo_attempt_939 rfl ?_
                refine aw_sipush d_Mo_attempt_941 ⟨by decide, by decide⟩ (by decide) ?_
                refine aw_icmp_ge (tgt := 982) d_Mo_attempt_944 (by decide) (fun c_944 => ?_) (fun c_944 => ?_)
                · skip
                  refine aw_aload_n d_Mo_attempt_982 rfl rfl ?_
                  refine ax_getR (b := 263) d_Mo_attempt_983 fd_Mo_87 (k_175 S) (r_175_31 S) ?_
                  refine aw_iload d_Mo_attempt_986 rfl ?_
                  refine aw_aload_n d_Mo_attempt_988 rfl rfl ?_
                  refine ax_getIe (x := 75) d_Mo_attempt_989 fd_Mo_245 (k_175 S) (Eq.trans (F5.1 175 37 (by omega) (Or.inr (by decide))) (dr2_37 D)) ?_
                  refine ax_iadd d_Mo_attempt_992 ⟨(by omega), (by omega)⟩ ?_
                  refine ax_ti (x := 4619) (by decide) ?_
                  refine aw_iload d_Mo_attempt_993 rfl ?_
                  refine ax_iadd d_Mo_attempt_995 ⟨(by omega), (by omega)⟩ ?_
                  refine aw_iload d_Mo_attempt_996 rfl ?_
                  refine aw_i2b d_Mo_attempt_998 ?_
                  refine ax_bast d_Mo_attempt_999 (k_263 S) (by decide) (by omega) (by rw [n_263 S]; omega) ?_
                  refine ax_iinc (lv' := [(7, vi (i + 1)), (8, vi c), (6, vi nn), (5, vi 4544), (0, vr 175)]) d_Mo_attempt_1000 rfl (by decide) ⟨(by omega), (by omega)⟩ rfl ?_
                  refine aw_goto (tgt := 927) d_Mo_attempt_1003 (by decide) ?_
                  refine aw_sub (lv' := [(7, vi (i + 1)), (6, vi nn), (5, vi 4544), (0, vr 175)]) (by simp) ?_
                  exact ih_927 _ (by omega) (i + 1) nn (a_up K5 263 (4619 + i) (a_w8 (a_w8 nn))) (by omega) (F5.tr (FR.up (p := fun a => a = 263) rfl) (fun a x => ⟨x, x⟩)) (fun z x y => by rw [a_up_ne (Or.inr (by omega))]; exact h5 z x y) (e5.trans (by rw [show 256 * i.toNat + c.toNat = 256 * (i + 1).toNat + (0 : Int).toNat by omega])) (⟨fun x a b => by rw [a_up_ne (Or.inr (by omega)), z5.1 x a b, show 256 * i.toNat + c.toNat = 256 * (i + 1).toNat + (0 : Int).toNat by omega], fun x a b => by rw [a_up_ne (Or.inr (by omega))]; exact z5.2 x a b⟩) (fun m a b => by by_cases v : m = i; exact (by rw [v, show (4619 + i : Int) = 4544 + 75 + i by omega, a_up_at, a_w8w8, a_m8w, e5, show 256 * i.toNat + c.toNat = 256 * i.toNat + 256 by omega]; have n1 := hIt_0 (fl := (sgF 2 sk rh mu t)) (256 * i.toNat + 256); have n2 := hIt_mono (fl := (sgF 2 sk rh mu t)) (a := 256 * i.toNat + 256) (b := 2048) (by omega); omega); exact (by rw [a_up_ne (Or.inr (by omega))]; exact n5 m a (by omega))) rfl
                · skip
                  refine aw_aload_n d_Mo_attempt_947 rfl rfl ?_
                  refine ax_getR (b := 253) d_Mo_attempt_948 fd_Mo_81 (k_175 S) (r_175_29 S) ?_
                  refine aw_iload d_Mo_attempt_951 rfl ?_
                  refine ax_aald (b := 254 + i.toNat) d_Mo_attempt_953 ⟨by rw [(k_253 S)]; decide, by rw [(k_253 S)]; decide⟩ (by omega) (by rw [n_253 S]; omega) (g_253 S (by omega) (by omega)) ?_
                  refine aw_iload d_Mo_attempt_954 rfl ?_
                  refine ax_zalde (x := (if (sgF 2 sk rh mu t) (256 * i.toNat + c.toNat) = true then 1 else 0)) d_Mo_attempt_956 (kr_253 S (by omega)) (by omega) (by rw [nr_253 S (by omega)]; omega) (hq (by omega)) ?_
                  refine aw_if_eq (tgt := 976) d_Mo_attempt_957 (by decide) (fun c_957 => ?_) (fun c_957 => ?_)
                  · skip
                    have fy : ¬ (sgF 2 sk rh mu t) (256 * i.toNat + c.toNat) = true := fun z => by rw [if_pos z] at c_957; exact absurd c_957 (by decide)
                    have eN : 256 * i.toNat + (c + 1).toNat = (256 * i.toNat + c.toNat) + 1 := by omega
                    refine ax_iinc (lv' := [(8, vi (c + 1)), (7, vi i), (6, vi nn), (5, vi 4544), (0, vr 175)]) d_Mo_attempt_976 rfl (by decide) ⟨(by omega), (by omega)⟩ rfl ?_
                    refine aw_goto (tgt := 939) d_Mo_attempt_979 (by decide) ?_
                    exact ih_939 _ (by omega) (c + 1) nn K5 (by omega) (F5) (h5) (by rw [eN, hIt_n fy]; exact e5) (by rw [eN, hIt_n fy]; exact z5) (n5) rfl
                  · skip
                    have fy : (sgF 2 sk rh mu t) (256 * i.toNat + c.toNat) = true := Classical.byContradiction (fun z => c_957 (if_neg z))
                    have eN : 256 * i.toNat + (c + 1).toNat = (256 * i.toNat + c.toNat) + 1 := by omega
                    have m2 := hIt_mono (fl := (sgF 2 sk rh mu t)) (a := 256 * i.toNat + c.toNat + 1) (b := 2048) (by omega)
                    rw [hIt_y fy] at m2
                    have m3 : (hIt (sgF 2 sk rh mu t) (256 * i.toNat + c.toNat)).1 + 1 ≤ (hIt (sgF 2 sk rh mu t) 2048).1 := m2
                    refine aw_aload_n d_Mo_attempt_960 rfl rfl ?_
                    refine ax_getR (b := 263) d_Mo_attempt_961 fd_Mo_87 (k_175 S) (r_175_31 S) ?_
                    refine aw_iload d_Mo_attempt_964 rfl ?_
                    refine aw_iload d_Mo_attempt_966 rfl ?_
                    refine ax_iadd d_Mo_attempt_968 ⟨(by omega), (by omega)⟩ ?_
                    refine aw_iload d_Mo_attempt_969 rfl ?_
                    refine aw_i2b d_Mo_attempt_971 ?_
                    refine ax_bast d_Mo_attempt_972 (k_263 S) (by decide) (by omega) (by rw [n_263 S]; omega) ?_
                    refine ax_iinc (lv' := [(6, vi (nn + 1)), (8, vi c), (7, vi i), (5, vi 4544), (0, vr 175)]) d_Mo_attempt_973 rfl (by decide) ⟨(by omega), (by omega)⟩ rfl ?_
                    refine ax_iinc (lv' := [(8, vi (c + 1)), (6, vi (nn + 1)), (7, vi i), (5, vi 4544), (0, vr 175)]) d_Mo_attempt_976 rfl (by decide) ⟨(by omega), (by omega)⟩ rfl ?_
                    refine aw_goto (tgt := 939) d_Mo_attempt_979 (by decide) ?_
                    refine aw_sub (lv' := [(8, vi (c + 1)), (7, vi i), (6, vi (nn + 1)), (5, vi 4544), (0, vr 175)]) (by simp) ?_
                    exact ih_939 _ (by omega) (c + 1) (nn + 1) (a_up K5 263 (4544 + nn) (a_w8 (a_w8 c))) (by omega) (F5.tr (FR.up (p := fun a => a = 263) rfl) (fun a x => ⟨x, x⟩)) (fun z x y => by rw [a_up_ne (Or.inr (by omega))]; exact h5 z x y) (by rw [eN, hIt_y fy]; show nn + 1 = _ + 1; rw [e5]) (⟨fun x a b => by rw [eN, hIt_y fy]; show _ = (if x = (hIt (sgF 2 sk rh mu t) (256 * i.toNat + c.toNat)).1 then (((256 * i.toNat + c.toNat) % 256 : Nat) : Int) else (hIt (sgF 2 sk rh mu t) (256 * i.toNat + c.toNat)).2 x); by_cases v : x = nn; exact (by rw [v, a_up_at, a_w8w8, a_m8w, if_pos e5]; omega); exact (by rw [a_up_ne (Or.inr (by omega)), if_neg (by omega)]; exact z5.1 x a (by omega)), fun x a b => by rw [a_up_ne (Or.inr (by omega))]; exact z5.2 x (by omega) b⟩) (fun m a b => by rw [a_up_ne (Or.inr (by omega))]; exact n5 m a b) rfl
              skip
              exact lp_939 _ 0 nn K4 (by omega) (F4) (h4) (e4) (z4) (n4) rfl
          skip
          exact lp_927 _ 0 0 K3 (by omega) (F3) (h3) (rfl) (⟨fun x a b => by omega, fun x a b => z3 x (by omega) (by omega)⟩) (fun m a b => by omega) rfl
        · skip
          refine aw_aload_n d_Mo_attempt_907 rfl rfl ?_
          refine ax_getR (b := 263) d_Mo_attempt_908 fd_Mo_87 (k_175 S) (r_175_31 S) ?_
          refine aw_iload d_Mo_attempt_911 rfl ?_
          refine aw_iload d_Mo_attempt_913 rfl ?_
          refine ax_iadd d_Mo_attempt_915 ⟨(by omega), (by omega)⟩ ?_
          refine aw_iconst d_Mo_attempt_916 ⟨by decide, by decide⟩ ?_
          refine ax_bast d_Mo_attempt_917 (k_263 S) (by decide) (by omega) (by rw [n_263 S]; omega) ?_
          refine ax_iinc (lv' := [(7, vi (i + 1)), (6, vi 0), (5, vi 4544), (0, vr 175)]) d_Mo_attempt_918 rfl (by decide) ⟨(by omega), (by omega)⟩ rfl ?_
          refine aw_goto (tgt := 898) d_Mo_attempt_921 (by decide) ?_
          exact ih_898 _ (by omega) (i + 1) (a_up K3 263 (4544 + i) (a_w8 0)) (by omega) (F3.tr (FR.up (p := fun a => a = 263) rfl) (fun a x => ⟨x, x⟩)) (fun z x y => by rw [a_up_ne (Or.inr (by omega))]; exact h3 z x y) (fun x a b => by by_cases v : x = i; exact (by rw [v, a_up_at]; decide); exact (by rw [a_up_ne (Or.inr (by omega))]; exact z3 x a (by omega))) rfl
      skip
      exact lp_898 _ 0 K2 (by omega) (F2) (h2.cut (by omega)) (fun x a b => by omega) rfl
    · skip
      refine aw_aload_n d_Mo_attempt_837 rfl rfl ?_
      refine aw_aload_n d_Mo_attempt_838 rfl rfl ?_
      refine ax_getR (b := 263) d_Mo_attempt_839 fd_Mo_87 (k_175 S) (r_175_31 S) ?_
      refine aw_aload_n d_Mo_attempt_842 rfl rfl ?_
      refine ax_getIe (x := 64) d_Mo_attempt_843 fd_Mo_248 (k_175 S) (Eq.trans (F2.1 175 38 (by omega) (Or.inr (by decide))) (dr2_38 D)) ?_
      refine aw_aload_n d_Mo_attempt_846 rfl rfl ?_
      refine ax_getR (b := 204) d_Mo_attempt_847 fd_Mo_76 (k_175 S) (r_175_28 S) ?_
      refine aw_bipush d_Mo_attempt_850 ⟨by decide, by decide⟩ (by decide) ?_
      refine aw_iload d_Mo_attempt_852 rfl ?_
      refine ax_iadd d_Mo_attempt_854 ⟨(by omega), (by omega)⟩ ?_
      refine ax_aald (b := 205 + (23 + i).toNat) d_Mo_attempt_855 ⟨by rw [(k_204 S)]; decide, by rw [(k_204 S)]; decide⟩ (by omega) (by rw [n_204 S]; omega) (g_204 S (by omega) (by omega)) ?_
      refine aw_aload_n d_Mo_attempt_856 rfl rfl ?_
      refine ax_getIe (x := 524288) d_Mo_attempt_857 fd_Mo_237 (k_175 S) (Eq.trans (F2.1 175 35 (by omega) (Or.inr (by decide))) (dr2_35 D)) ?_
      refine aw_aload_n d_Mo_attempt_860 rfl rfl ?_
      refine ax_getIe (x := 20) d_Mo_attempt_861 fd_Mo_251 (k_175 S) (Eq.trans (F2.1 175 39 (by omega) (Or.inr (by decide))) (dr2_39 D)) ?_
      refine ax_Vr (st := []) (as := [vr 263, vi 64, vr (205 + (23 + i).toNat), vi 524288, vi 20]) (b := 175) d_Mo_attempt_864 cs_Mo_attempt_864 (k_175 S) (c_Mo_pack (pa := 64) (c := 640 * i) (d := 20) (b := 524288) S ⟨k_263 S, by decide, by decide⟩ ⟨kr_204 S (by omega), by omega, nr_204 S (by omega)⟩ (by omega) (by decide) (by omega) (fun j x y => by rw [F2.1 _ _ (by omega) (Or.inl (by omega)), hz i hi.1 (by omega) j x y]; exact wiN_20 (by decide) sgZ_in (gd.1 i hi.1 (by show i < 7; omega)) x y) (by decide) (by rw [n_263 S]; omega)) rfl rfl rfl (fun u_864 q_864 => ?_)
      obtain ⟨q1, q2, q3⟩ := q_864
      show AW l G M_Mo_attempt P 867 [(5, vi i), (0, vr 175)] [] (sD h u_864 M)
      refine ax_iinc (lv' := [(5, vi (i + 1)), (0, vr 175)]) d_Mo_attempt_867 rfl (by decide) ⟨(by omega), (by omega)⟩ rfl ?_
      refine aw_goto (tgt := 828) d_Mo_attempt_870 (by decide) ?_
      exact ih_828 _ (by omega) (i + 1) u_864 (by omega) (F2.tr (FR.bits (p := fun a => a = 263) q1 rfl) (fun a x => ⟨x, x⟩)) (by omega) (fun z x y => by by_cases v : z < 64 + 640 * i; exact (by rw [q1 263 _ (Or.inr (by omega)) (Or.inl (by decide))]; exact h2 z x v); exact (by have y2 := q3 (z - (64 + 640 * i)) (by omega) (by omega); rw [show (64 + 640 * i + (z - (64 + 640 * i)) : Int) = 0 + z by omega] at y2; rw [y2, show sgPk 2 sk rh mu t z = pcB2 (sgC 2 sk rh mu t) (sgZ 2 sk rh mu t) (sgF 2 sk rh mu t) z from rfl]; unfold pcB2; rw [if_neg (by omega), if_pos (by omega), show (z - 64) / 640 = i by omega, show (z - 64) % 640 = z - (64 + 640 * i) by omega]; exact congrFun (gB_congr (fun j u v => by rw [F2.1 _ _ (by omega) (Or.inl (by omega))]; exact hz i hi.1 (by omega) j u v)) _)) rfl
  skip
  exact lp_828 _ 0 (a_up (putRow K 263 0 64 (fun k => K 267 (0 + k))) 175 23 0) (by omega) ((FR.put (p := fun a => a = 263) rfl).tr (FR.b0 (p := fun a => a = 263)) (fun a x => ⟨x, x⟩)) (by rw [a_up_at]; rfl) (fun z x y => by rw [a_up_ne (Or.inl (by decide))]; exact HR.put (g' := sgPk 2 sk rh mu t) (fun z x y => by rw [hch z x y, show sgPk 2 sk rh mu t z = pcB2 (sgC 2 sk rh mu t) (sgZ 2 sk rh mu t) (sgF 2 sk rh mu t) z from rfl]; unfold pcB2; rw [if_pos y]) z x (by omega)) rfl
set_option maxHeartbeats 4000000 in
set_option maxRecDepth 100000 in
theorem aE2 {l : Launch} {G : a_G} {P : a_R → Hp → Prop} {h : Hp} {K0 M0 K M : Nat → Int → Int} {sk rh mu : Int → Int} {t : Int} (S : Shp h) (D0 : RD K0 M0 2) (hk0 : HR K0 180 0 4896 sk) (km : ∀ x, sk x % 256 = sk x) (hr0 : HR K0 266 0 64 rh) (rm0 : ∀ x, rh x % 256 = rh x) (hm0 : HR K0 265 0 64 mu) (mm0 : ∀ x, mu x % 256 = mu x) (hS0 : ∀ m, 0 ≤ m → m < 15 → eqQ (K0 (205 + m.toNat)) (sgSs 2 sk m)) (hD0 : ∀ m, 0 ≤ m → m < 8 → eqQ (K0 (205 + (15 + m).toNat)) (sgDs 2 sk m)) (ht : 0 ≤ t ∧ t < 814) (F0 : FR pAt K0 M0 K M) (okk : (sgOk 2 sk ∧ bll 60 (sgBs 2 sk rh mu t) ≠ none)) (gd1 : ∀ m, 0 ≤ m → m < pL 2 → wiN (pG1 2 - sBd 2) ((sgZ 2 sk rh mu t) m)) (hch : HR K 267 0 64 (sgC 2 sk rh mu t)) (hz : ∀ m, 0 ≤ m → m < 7 → ∀ j, 0 ≤ j → j < 256 → 524288 - K (205 + (23 + m).toNat) j = (524288 - (sgZ 2 sk rh mu t) m j) % 8380417) (hW : ∀ m, 0 ≤ m → m < 8 → eqQ (K (205 + (30 + m).toNat)) ((sgW 2 sk rh t) m)) (hB : eqQ (K 251) (blX 60 (sgBs 2 sk rh mu t))) (hP : ∀ r_ h2_, RaR h K0 M0 pAt (sgOk 2 sk ∧ bll 60 (sgBs 2 sk rh mu t) ≠ none) (sgGood 2 sk rh mu t) 4627 (sgPk 2 sk rh mu t) r_ h2_ → P r_ h2_) : AW l G M_Mo_attempt P 471 [(2, vi 120), (0, vr 175)] [] (sD h K M) := by
  have D := D0.fr F0 (by decide)
  have hS : ∀ m, 0 ≤ m → m < 15 → eqQ (K (205 + m.toNat)) (sgSs 2 sk m) := fun m a b j x y => (F0.1 _ _ (by omega) (Or.inl (by omega))).trans (hS0 m a b j x y)
  have hD : ∀ m, 0 ≤ m → m < 8 → eqQ (K (205 + (15 + m).toNat)) (sgDs 2 sk m) := fun m a b j x y => (F0.1 _ _ (by omega) (Or.inl (by omega))).trans (hD0 m a b j x y)
  refine aw_iconst d_Mo_attempt_471 ⟨by decide, by decide⟩ ?_
  refine aw_istore_n (lv' := [(3, vi 0), (2, vi 120), (0, vr 175)]) d_Mo_attempt_472 rfl (by decide) rfl ?_
  refine aw_iconst d_Mo_attempt_473 ⟨by decide, by decide⟩ ?_
  refine aw_istore (lv' := [(4, vi 0), (3, vi 0), (2, vi 120), (0, vr 175)]) d_Mo_attempt_474 (by decide) rfl ?_
  refine aw_iconst d_Mo_attempt_476 ⟨by decide, by decide⟩ ?_
  refine aw_istore (lv' := [(5, vi 0), (4, vi 0), (3, vi 0), (2, vi 120), (0, vr 175)]) d_Mo_attempt_477 (by decide) rfl ?_
  have lp_479 : ∀ (n_ : Nat) (i : Int) (hn : Int) (an : Int) (K2 : Nat → Int → Int) (M2 : Nat → Int → Int), (0 ≤ i ∧ i ≤ 8) → (FR (fun a => a = 252 ∨ 235 ≤ a ∧ a ≤ 242 ∨ 254 ≤ a ∧ a ≤ 261) K M K2 M2) → (∀ m, 0 ≤ m → m < i → eqQ (K2 (205 + (30 + m).toNat)) ((sgR 2 sk rh mu t) m)) → (∀ m, 0 ≤ m → i ≤ m → m < 8 → eqQ (K2 (205 + (30 + m).toNat)) ((sgW 2 sk rh t) m)) → (∀ m : Int, 0 ≤ m → m < i → ∀ x : Int, 0 ≤ x → x < 256 → K2 (254 + m.toNat) x = (if (sgF 2 sk rh mu t) (256 * m.toNat + x.toNat) = true then 1 else 0)) → (hn = (hIt (sgF 2 sk rh mu t) (256 * i.toNat + (0 : Int).toNat)).1) → ((an = 0 ∨ an = 1) ∧ (an = 0 ↔ (∀ m, 0 ≤ m → m < i → (∀ x, 0 ≤ x → x < 256 → (-261768 < dLow 261888 ((sgR 2 sk rh mu t) m x) ∧ dLow 261888 ((sgR 2 sk rh mu t) m x) < 261768)) ∧ ∀ x, 0 ≤ x → x < 256 → (¬ (261888 ≤ (prB (sgB 2 sk rh mu t) (sgD 2 sk m) x) ∧ (prB (sgB 2 sk rh mu t) (sgD 2 sk m) x) ≤ 8380417 - 261888))))) → ((8 - i).toNat) = n_ → AW l G M_Mo_attempt P 479 [(5, vi i), (4, vi an), (3, vi hn), (2, vi 120), (0, vr 175)] [] (sD h K2 M2) := by
    intro n_
    induction n_ using Nat.strongRecOn with
    | _ n_ ih_479 =>
    intro i hn an K2 M2 hi F2 dn td hr2 e2 a2 hm_479
    have h30 := hIt_0 (fl := (sgF 2 sk rh mu t)) (256 * i.toNat + (0 : Int).toNat)
    refine aw_iload d_Mo_attempt_479 rfl ?_
    refine aw_aload_n d_Mo_attempt_481 rfl rfl ?_
    refine ax_getIe (x := 8) d_Mo_attempt_482 fd_Mo_223 (k_175 S) (Eq.trans (F2.1 175 26 (by omega) (Or.inr (by decide))) (dr2_26 D)) ?_
    refine aw_icmp_ge (tgt := 788) d_Mo_attempt_485 (by decide) (fun c_485 => ?_) (fun c_485 => ?_)
    · skip
      refine aw_iload d_Mo_attempt_788 rfl ?_
      refine aw_if_ne (tgt := 801) d_Mo_attempt_790 (by decide) (fun c_790 => ?_) (fun c_790 => ?_)
      · skip
        refine aw_iconst d_Mo_attempt_801 ⟨by decide, by decide⟩ ?_
        exact aw_iret d_Mo_attempt_802 rfl (hP _ _ ⟨_, K2, M2, rfl, rfl, F0.tr F2 (by intro a x; exact ⟨x, by intro z; exact x (by omega)⟩), Or.inr (Or.inl ⟨rfl, okk, fun z => by have y := a2.2.2 (fun m a b => ⟨fun x u v => z.2.1 m a (by show m < 8; omega) x u v, fun x u v => z.2.2.1 m a (by show m < 8; omega) x u v⟩); have y2 : (hIt (sgF 2 sk rh mu t) 2048).1 ≤ 75 := z.2.2.2; rw [show 256 * i.toNat + (0 : Int).toNat = 2048 by omega] at e2; omega⟩)⟩)
      · skip
        refine aw_iload_n d_Mo_attempt_793 rfl rfl ?_
        refine aw_aload_n d_Mo_attempt_794 rfl rfl ?_
        refine ax_getIe (x := 75) d_Mo_attempt_795 fd_Mo_245 (k_175 S) (Eq.trans (F2.1 175 37 (by omega) (Or.inr (by decide))) (dr2_37 D)) ?_
        refine aw_icmp_le (tgt := 803) d_Mo_attempt_798 (by decide) (fun c_798 => ?_) (fun c_798 => ?_)
        · skip
          refine aw_sub (lv' := [(0, vr 175)]) (by simp) ?_
          have y := a2.2.1 (by omega)
          rw [show 256 * i.toNat + (0 : Int).toNat = 2048 by omega] at e2
          exact aF2 S D0 hk0 km hr0 rm0 hm0 mm0 hS0 hD0 ht (F0.tr F2 (by intro a x; exact ⟨x, by intro z; exact x (by omega)⟩)) okk ⟨gd1, fun m a b => (y m a (by have b2 : m < 8 := b; omega)).1, fun m a b => (y m a (by have b2 : m < 8 := b; omega)).2, by show (hIt (sgF 2 sk rh mu t) 2048).1 ≤ 75; omega⟩ (hch.fr F2 (by decide) (by decide)) (fun m a b j x y => by rw [F2.1 _ _ (by omega) (Or.inl (by omega))]; exact hz m a b j x y) (fun m a b => hr2 m a (by omega)) hP
        · skip
          refine aw_iconst d_Mo_attempt_801 ⟨by decide, by decide⟩ ?_
          exact aw_iret d_Mo_attempt_802 rfl (hP _ _ ⟨_, K2, M2, rfl, rfl, F0.tr F2 (by intro a x; exact ⟨x, by intro z; exact x (by omega)⟩), Or.inr (Or.inl ⟨rfl, okk, fun z => by have y := a2.2.2 (fun m a b => ⟨fun x u v => z.2.1 m a (by show m < 8; omega) x u v, fun x u v => z.2.2.1 m a (by show m < 8; omega) x u v⟩); have y2 : (hIt (sgF 2 sk rh mu t) 2048).1 ≤ 75 := z.2.2.2; rw [show 256 * i.toNat + (0 : Int).toNat = 2048 by omega] at e2; omega⟩)⟩)
    · skip
      refine aw_aload_n d_Mo_attempt_488 rfl rfl ?_
      refine aw_aload_n d_Mo_attempt_489 rfl rfl ?_
      refine ax_getR (b := 204) d_Mo_attempt_490 fd_Mo_76 (k_175 S) (r_175_28 S) ?_
      refine aw_bipush d_Mo_attempt_493 ⟨by decide, by decide⟩ (by decide) ?_
      refine ax_aald (b := 252) d_Mo_attempt_495 ⟨by rw [(k_204 S)]; decide, by rw [(k_204 S)]; decide⟩ (by omega) (by rw [n_204 S]; omega) (g_204 S (j := 47) (by decide) (by decide)) ?_
      refine aw_aload_n d_Mo_attempt_496 rfl rfl ?_
      refine ax_getR (b := 204) d_Mo_attempt_497 fd_Mo_76 (k_175 S) (r_175_28 S) ?_
      refine aw_bipush d_Mo_attempt_500 ⟨by decide, by decide⟩ (by decide) ?_
      refine ax_aald (b := 251) d_Mo_attempt_502 ⟨by rw [(k_204 S)]; decide, by rw [(k_204 S)]; decide⟩ (by omega) (by rw [n_204 S]; omega) (g_204 S (j := 46) (by decide) (by decide)) ?_
      refine aw_aload_n d_Mo_attempt_503 rfl rfl ?_
      refine ax_getR (b := 204) d_Mo_attempt_504 fd_Mo_76 (k_175 S) (r_175_28 S) ?_
      refine aw_aload_n d_Mo_attempt_507 rfl rfl ?_
      refine ax_getIe (x := 7) d_Mo_attempt_508 fd_Mo_226 (k_175 S) (Eq.trans (F2.1 175 32 (by omega) (Or.inr (by decide))) (dr2_32 D)) ?_
      refine aw_iload d_Mo_attempt_511 rfl ?_
      refine ax_iadd d_Mo_attempt_513 ⟨(by omega), (by omega)⟩ ?_
      refine ax_aald (b := 205 + (7 + i).toNat) d_Mo_attempt_514 ⟨by rw [(k_204 S)]; decide, by rw [(k_204 S)]; decide⟩ (by omega) (by rw [n_204 S]; omega) (g_204 S (by omega) (by omega)) ?_
      refine ax_Vr (st := []) (as := [vr 252, vr 251, vr (205 + (7 + i).toNat)]) (b := 175) d_Mo_attempt_515 cs_Mo_attempt_515 (k_175 S) (c_Mo_few S ⟨k_252 S, by decide, n_252 S⟩ ⟨k_251 S, by decide, n_251 S⟩ ⟨kr_204 S (by omega), by omega, nr_204 S (by omega)⟩ (fun j x y => by rw [F2.1 _ _ (by omega) (Or.inl (by omega)), hB j x y]; exact blX_b j) (fun j x y => by rw [F2.1 _ _ (by omega) (Or.inl (by omega)), hS (7 + i) (by omega) (by omega) j x y]; have := sgSs_b (s := 2) (sk := sk) (m := 7 + i) (j := j); omega)) rfl rfl rfl (fun u_515 q_515 => ?_)
      have l1 := q_515
      have q252 : eqQ ((rowTo K2 252 256 (few (K2 251) (K2 (205 + (7 + i).toNat)))) 252) (fun j => cen (prB (sgB 2 sk rh mu t) (sgV 2 sk (7 + i)) j)) := fun j x y => by rw [rowTo_in x y]; exact few_prB (fun z u v => (F2.1 _ _ (by omega) (Or.inl (by omega))).trans (hB z u v)) (fun z u v => (F2.1 _ _ (by omega) (Or.inl (by omega))).trans (hS (7 + i) (by omega) (by omega) z u v)) j x y
      show AW l G M_Mo_attempt P 518 [(5, vi i), (4, vi an), (3, vi hn), (2, vi 120), (0, vr 175)] [] (sD h (rowTo K2 252 256 (few (K2 251) (K2 (205 + (7 + i).toNat)))) u_515)
      refine aw_iconst d_Mo_attempt_518 ⟨by decide, by decide⟩ ?_
      refine aw_istore (lv' := [(6, vi 0), (5, vi i), (4, vi an), (3, vi hn), (2, vi 120), (0, vr 175)]) d_Mo_attempt_519 (by decide) rfl ?_
      have lp_521 : ∀ (n_ : Nat) (c : Int) (an3 : Int) (K3 : Nat → Int → Int), (0 ≤ c ∧ c ≤ 256) → (FR (fun a => a = 252 ∨ 235 ≤ a ∧ a ≤ 242 ∨ 254 ≤ a ∧ a ≤ 261) K M K3 u_515) → (FR (fun a => a = 205 + (30 + i).toNat) (rowTo K2 252 256 (few (K2 251) (K2 (205 + (7 + i).toNat)))) u_515 K3 u_515) → ((∀ x, 0 ≤ x → x < c → K3 (205 + (30 + i).toNat) x = (sgR 2 sk rh mu t) i x) ∧ ∀ x, c ≤ x → x < 256 → K3 (205 + (30 + i).toNat) x = (sgW 2 sk rh t) i x) → ((an3 = 0 ∨ an3 = 1) ∧ (an3 = 0 ↔ an = 0 ∧ ∀ x, 0 ≤ x → x < c → (-261768 < dLow 261888 ((sgR 2 sk rh mu t) i x) ∧ dLow 261888 ((sgR 2 sk rh mu t) i x) < 261768))) → ((256 - c).toNat) = n_ → AW l G M_Mo_attempt P 521 [(6, vi c), (5, vi i), (4, vi an3), (3, vi hn), (2, vi 120), (0, vr 175)] [] (sD h K3 u_515) := by
        intro n_
        induction n_ using Nat.strongRecOn with
        | _ n_ ih_521 =>
        intro c an3 K3 hc F3 t3 r3 a3 hm_521
        have p3 : c < 256 → K3 252 c = cen (prB (sgB 2 sk rh mu t) (sgV 2 sk (7 + i)) c) := fun v => by rw [t3.1 _ _ (by omega) (Or.inl (by omega))]; exact q252 c hc.1 v
        have gp3 : K3 175 36 = 261888 := (F3.1 175 36 (by omega) (Or.inr (by decide))).trans (dr2_36 D)
        refine aw_iload d_Mo_attempt_521 rfl ?_
        refine aw_sipush d_Mo_attempt_523 ⟨by decide, by decide⟩ (by decide) ?_
        refine aw_icmp_ge (tgt := 624) d_Mo_attempt_526 (by decide) (fun c_526 => ?_) (fun c_526 => ?_)
        · skip
          refine aw_aload_n d_Mo_attempt_624 rfl rfl ?_
          refine aw_aload_n d_Mo_attempt_625 rfl rfl ?_
          refine ax_getR (b := 204) d_Mo_attempt_626 fd_Mo_76 (k_175 S) (r_175_28 S) ?_
          refine aw_bipush d_Mo_attempt_629 ⟨by decide, by decide⟩ (by decide) ?_
          refine ax_aald (b := 252) d_Mo_attempt_631 ⟨by rw [(k_204 S)]; decide, by rw [(k_204 S)]; decide⟩ (by omega) (by rw [n_204 S]; omega) (g_204 S (j := 47) (by decide) (by decide)) ?_
          refine aw_aload_n d_Mo_attempt_632 rfl rfl ?_
          refine ax_getR (b := 204) d_Mo_attempt_633 fd_Mo_76 (k_175 S) (r_175_28 S) ?_
          refine aw_bipush d_Mo_attempt_636 ⟨by decide, by decide⟩ (by decide) ?_
          refine ax_aald (b := 251) d_Mo_attempt_638 ⟨by rw [(k_204 S)]; decide, by rw [(k_204 S)]; decide⟩ (by omega) (by rw [n_204 S]; omega) (g_204 S (j := 46) (by decide) (by decide)) ?_
          refine aw_aload_n d_Mo_attempt_639 rfl rfl ?_
          refine ax_getR (b := 204) d_Mo_attempt_640 fd_Mo_76 (k_175 S) (r_175_28 S) ?_
          refine aw_bipush d_Mo_attempt_643 ⟨by decide, by decide⟩ (by decide) ?_
          refine aw_iload d_Mo_attempt_645 rfl ?_
          refine ax_iadd d_Mo_attempt_647 ⟨(by omega), (by omega)⟩ ?_
          refine ax_aald (b := 205 + (15 + i).toNat) d_Mo_attempt_648 ⟨by rw [(k_204 S)]; decide, by rw [(k_204 S)]; decide⟩ (by omega) (by rw [n_204 S]; omega) (g_204 S (by omega) (by omega)) ?_
          refine ax_Vr (st := []) (as := [vr 252, vr 251, vr (205 + (15 + i).toNat)]) (b := 175) d_Mo_attempt_649 cs_Mo_attempt_649 (k_175 S) (c_Mo_few S ⟨k_252 S, by decide, n_252 S⟩ ⟨k_251 S, by decide, n_251 S⟩ ⟨kr_204 S (by omega), by omega, nr_204 S (by omega)⟩ (fun j x y => by rw [F3.1 _ _ (by omega) (Or.inl (by omega)), hB j x y]; exact blX_b j) (fun j x y => by rw [F3.1 _ _ (by omega) (Or.inl (by omega)), hD i hi.1 (by omega) j x y]; have := sgDs_b (s := 2) (sk := sk) (m := i) (j := j); omega)) rfl rfl rfl (fun u_649 q_649 => ?_)
          have l2 := q_649
          have q252 : eqQ ((rowTo K3 252 256 (few (K3 251) (K3 (205 + (15 + i).toNat)))) 252) (fun j => cen (prB (sgB 2 sk rh mu t) (sgD 2 sk i) j)) := fun j x y => by rw [rowTo_in x y]; exact few_prB (fun z u v => (F3.1 _ _ (by omega) (Or.inl (by omega))).trans (hB z u v)) (fun z u v => (F3.1 _ _ (by omega) (Or.inl (by omega))).trans (hD i hi.1 (by omega) z u v)) j x y
          show AW l G M_Mo_attempt P 652 [(6, vi c), (5, vi i), (4, vi an3), (3, vi hn), (2, vi 120), (0, vr 175)] [] (sD h (rowTo K3 252 256 (few (K3 251) (K3 (205 + (15 + i).toNat)))) u_649)
          refine aw_iconst d_Mo_attempt_652 ⟨by decide, by decide⟩ ?_
          refine aw_istore (lv' := [(6, vi 0), (5, vi i), (4, vi an3), (3, vi hn), (2, vi 120), (0, vr 175)]) d_Mo_attempt_653 (by decide) rfl ?_
          have lp_655 : ∀ (n_ : Nat) (c : Int) (hn : Int) (an : Int) (K4 : Nat → Int → Int), (0 ≤ c ∧ c ≤ 256) → (FR (fun a => a = 252 ∨ 235 ≤ a ∧ a ≤ 242 ∨ 254 ≤ a ∧ a ≤ 261) K M K4 u_649) → (FR (fun a => a = 254 + i.toNat) (rowTo K3 252 256 (few (K3 251) (K3 (205 + (15 + i).toNat)))) u_649 K4 u_649) → (∀ x : Int, 0 ≤ x → x < c → K4 (254 + i.toNat) x = (if (sgF 2 sk rh mu t) (256 * i.toNat + x.toNat) = true then 1 else 0)) → (hn = (hIt (sgF 2 sk rh mu t) (256 * i.toNat + c.toNat)).1) → ((an = 0 ∨ an = 1) ∧ (an = 0 ↔ an3 = 0 ∧ ∀ x, 0 ≤ x → x < c → (¬ (261888 ≤ (prB (sgB 2 sk rh mu t) (sgD 2 sk i) x) ∧ (prB (sgB 2 sk rh mu t) (sgD 2 sk i) x) ≤ 8380417 - 261888)))) → ((256 - c).toNat) = n_ → AW l G M_Mo_attempt P 655 [(6, vi c), (5, vi i), (4, vi an), (3, vi hn), (2, vi 120), (0, vr 175)] [] (sD h K4 u_649) := by
            intro n_
            induction n_ using Nat.strongRecOn with
            | _ n_ ih_655 =>
            intro c hn an K4 hc4 F4 t4 w4 e4 a4 hm_655
            have r4 : eqQ (K4 (205 + (30 + i).toNat)) ((sgR 2 sk rh mu t) i) := fun x a b => by rw [t4.1 _ _ (by omega) (Or.inl (by omega)), rowTo_ne (by omega)]; exact r3.1 x a (by omega)
            have p4 : c < 256 → K4 252 c = cen (prB (sgB 2 sk rh mu t) (sgD 2 sk i) c) := fun v => by rw [t4.1 _ _ (by omega) (Or.inl (by omega))]; exact q252 c hc4.1 v
            have r4c : c < 256 → K4 (205 + (30 + i).toNat) c = (sgR 2 sk rh mu t) i c := fun v => r4 c hc4.1 v
            have h40 := hIt_0 (fl := (sgF 2 sk rh mu t)) (256 * i.toNat + c.toNat)
            have h41 := hIt_cnt (fl := (sgF 2 sk rh mu t)) (256 * i.toNat + c.toNat)
            have gp4 : K4 175 36 = 261888 := (F4.1 175 36 (by omega) (Or.inr (by decide))).trans (dr2_36 D)
            refine aw_iload d_Mo_attempt_655 rfl ?_
            refine aw_sipush d_Mo_attempt_657 ⟨by decide, by decide⟩ (by decide) ?_
            refine aw_icmp_ge (tgt := 782) d_Mo_attempt_660 (by decide) (fun c_660 => ?_) (fun c_660 => ?_)
            · skip
              refine ax_iinc (lv' := [(5, vi (i + 1)), (6, vi c), (4, vi an), (3, vi hn), (2, vi 120), (0, vr 175)]) d_Mo_attempt_782 rfl (by decide) ⟨(by omega), (by omega)⟩ rfl ?_
              refine aw_goto (tgt := 479) d_Mo_attempt_785 (by decide) ?_
              refine aw_sub (lv' := [(5, vi (i + 1)), (4, vi an), (3, vi hn), (2, vi 120), (0, vr 175)]) (by simp) ?_
              exact ih_479 _ (by omega) (i + 1) hn an K4 u_649 (by omega) (F4) (fun m a b j x y => by by_cases z : m = i; exact (by rw [z]; exact r4 j x y); exact (by rw [t4.1 _ _ (by omega) (Or.inl (by omega)), rowTo_ne (by omega), t3.1 _ _ (by omega) (Or.inl (by omega)), rowTo_ne (by omega)]; exact dn m a (by omega) j x y)) (fun m a b c j x y => by rw [t4.1 _ _ (by omega) (Or.inl (by omega)), rowTo_ne (by omega), t3.1 _ _ (by omega) (Or.inl (by omega)), rowTo_ne (by omega)]; exact td m a (by omega) c j x y) (fun m a b j x y => by by_cases z : m = i; exact (by rw [z]; exact w4 j x (by omega)); exact (by rw [t4.1 _ _ (by omega) (Or.inl (by omega)), rowTo_ne (by omega), t3.1 _ _ (by omega) (Or.inl (by omega)), rowTo_ne (by omega)]; exact hr2 m a (by omega) j x y)) (by rw [e4, show 256 * i.toNat + c.toNat = 256 * (i + 1).toNat + (0 : Int).toNat by omega]) (⟨a4.1, fun z m a b => by have y := a4.2.1 z; by_cases v : m = i; exact (by rw [v]; exact ⟨fun x u w_ => (a3.2.1 y.1).2 x u (by omega), fun x u w_ => y.2 x u (by omega)⟩); exact a2.2.1 (a3.2.1 y.1).1 m a (by omega), fun z => a4.2.2 ⟨a3.2.2 ⟨a2.2.2 (fun m a b => z m a (by omega)), fun x u v => (z i hi.1 (by omega)).1 x u (by omega)⟩, fun x u v => (z i hi.1 (by omega)).2 x u (by omega)⟩⟩) rfl
            · skip
              have c1 := prB_in (B := (sgB 2 sk rh mu t)) (V := (sgD 2 sk i)) c hc4.1 (by omega)
              have c2 := sgR_in (s := 2) (sk := sk) (rh := rh) (mu := mu) (t := t) (m := i) c hc4.1 (by omega)
              have c3 := cen_b c1
              have eN : 256 * i.toNat + (c + 1).toNat = (256 * i.toNat + c.toNat) + 1 := by omega
              have fat := sgF_at (s := 2) (sk := sk) (rh := rh) (mu := mu) (t := t) (m := i.toNat) (j := c.toNat) (by omega)
              rw [Int.toNat_of_nonneg hi.1, Int.toNat_of_nonneg hc4.1] at fat
              have wc := cen_w (t := 261888) (by decide) c1
              refine aw_aload_n d_Mo_attempt_663 rfl rfl ?_
              refine ax_getR (b := 204) d_Mo_attempt_664 fd_Mo_76 (k_175 S) (r_175_28 S) ?_
              refine aw_bipush d_Mo_attempt_667 ⟨by decide, by decide⟩ (by decide) ?_
              refine ax_aald (b := 252) d_Mo_attempt_669 ⟨by rw [(k_204 S)]; decide, by rw [(k_204 S)]; decide⟩ (by omega) (by rw [n_204 S]; omega) (g_204 S (j := 47) (by decide) (by decide)) ?_
              refine aw_iload d_Mo_attempt_670 rfl ?_
              refine ax_ialde (x := cen (prB (sgB 2 sk rh mu t) (sgD 2 sk i) c)) d_Mo_attempt_672 (k_252 S) (by omega) (by rw [n_252 S]; omega) (p4 (by omega)) ?_
              refine aw_istore (lv' := [(7, vi (cen (prB (sgB 2 sk rh mu t) (sgD 2 sk i) c))), (6, vi c), (5, vi i), (4, vi an), (3, vi hn), (2, vi 120), (0, vr 175)]) d_Mo_attempt_673 (by decide) rfl ?_
              refine aw_iload d_Mo_attempt_675 rfl ?_
              refine aw_aload_n d_Mo_attempt_677 rfl rfl ?_
              refine ax_getIe (x := 261888) d_Mo_attempt_678 fd_Mo_242 (k_175 S) (Eq.trans (F4.1 175 36 (by omega) (Or.inr (by decide))) (dr2_36 D)) ?_
              refine aw_icmp_ge (tgt := 694) d_Mo_attempt_681 (by decide) (fun c_681 => ?_) (fun c_681 => ?_)
              · skip
                refine aw_iconst d_Mo_attempt_694 ⟨by decide, by decide⟩ ?_
                refine aw_istore (lv' := [(4, vi 1), (7, vi (cen (prB (sgB 2 sk rh mu t) (sgD 2 sk i) c))), (6, vi c), (5, vi i), (3, vi hn), (2, vi 120), (0, vr 175)]) d_Mo_attempt_695 (by decide) rfl ?_
                refine aw_aload_n d_Mo_attempt_697 rfl rfl ?_
                refine ax_getR (b := 253) d_Mo_attempt_698 fd_Mo_81 (k_175 S) (r_175_29 S) ?_
                refine aw_iload d_Mo_attempt_701 rfl ?_
                refine ax_aald (b := 254 + i.toNat) d_Mo_attempt_703 ⟨by rw [(k_253 S)]; decide, by rw [(k_253 S)]; decide⟩ (by omega) (by rw [n_253 S]; omega) (g_253 S (by omega) (by omega)) ?_
                refine aw_iload d_Mo_attempt_704 rfl ?_
                refine aw_aload_n d_Mo_attempt_706 rfl rfl ?_
                refine aw_aload_n d_Mo_attempt_707 rfl rfl ?_
                refine ax_getR (b := 204) d_Mo_attempt_708 fd_Mo_76 (k_175 S) (r_175_28 S) ?_
                refine aw_bipush d_Mo_attempt_711 ⟨by decide, by decide⟩ (by decide) ?_
                refine aw_iload d_Mo_attempt_713 rfl ?_
                refine ax_iadd d_Mo_attempt_715 ⟨(by omega), (by omega)⟩ ?_
                refine ax_aald (b := 205 + (30 + i).toNat) d_Mo_attempt_716 ⟨by rw [(k_204 S)]; decide, by rw [(k_204 S)]; decide⟩ (by omega) (by rw [n_204 S]; omega) (g_204 S (by omega) (by omega)) ?_
                refine aw_iload d_Mo_attempt_717 rfl ?_
                refine ax_ialde (x := (sgR 2 sk rh mu t) i c) d_Mo_attempt_719 (kr_204 S (by omega)) (by omega) (by rw [nr_204 S (by omega)]; omega) (r4c (by omega)) ?_
                refine aw_iload d_Mo_attempt_720 rfl ?_
                refine ax_iadd d_Mo_attempt_722 ⟨(by omega), (by omega)⟩ ?_
                refine aw_ldcw (n := 8380417) d_Mo_attempt_723 lc_Mo_264 ⟨by decide, by decide⟩ ?_
                refine ax_iadd d_Mo_attempt_726 ⟨(by omega), (by omega)⟩ ?_
                refine aw_ldcw (n := 8380417) d_Mo_attempt_727 lc_Mo_264 ⟨by decide, by decide⟩ ?_
                refine ax_irem d_Mo_attempt_730 (by omega) (by omega) ?_
                refine ax_ti (x := ((sgR 2 sk rh mu t) i c + (prB (sgB 2 sk rh mu t) (sgD 2 sk i) c)) % 8380417) (cen_a c1 c2) ?_
                refine ax_V (st := [vi c, vr (254 + i.toNat)]) (as := [vi (((sgR 2 sk rh mu t) i c + (prB (sgB 2 sk rh mu t) (sgD 2 sk i) c)) % 8380417)]) (b := 175) (v := some (vi (dHigh 261888 (((sgR 2 sk rh mu t) i c + (prB (sgB 2 sk rh mu t) (sgD 2 sk i) c)) % 8380417)))) (h' := sD h K4 u_649) d_Mo_attempt_731 cs_Mo_attempt_731 (k_175 S) (by have z := c_Mo_high (l := l) (G := G) (L := u_649) (I := K4) (r := ((sgR 2 sk rh mu t) i c + (prB (sgB 2 sk rh mu t) (sgD 2 sk i) c)) % 8380417) S (by rw [gp4]; decide) (by omega); rw [gp4] at z; exact z) rfl rfl rfl ?_
                show AW l G M_Mo_attempt P 734 [(4, vi 1), (7, vi (cen (prB (sgB 2 sk rh mu t) (sgD 2 sk i) c))), (6, vi c), (5, vi i), (3, vi hn), (2, vi 120), (0, vr 175)] [vi (dHigh 261888 (((sgR 2 sk rh mu t) i c + (prB (sgB 2 sk rh mu t) (sgD 2 sk i) c)) % 8380417)), vi c, vr (254 + i.toNat)] (sD h K4 u_649)
                refine aw_aload_n d_Mo_attempt_734 rfl rfl ?_
                refine aw_aload_n d_Mo_attempt_735 rfl rfl ?_
                refine ax_getR (b := 204) d_Mo_attempt_736 fd_Mo_76 (k_175 S) (r_175_28 S) ?_
                refine aw_bipush d_Mo_attempt_739 ⟨by decide, by decide⟩ (by decide) ?_
                refine aw_iload d_Mo_attempt_741 rfl ?_
                refine ax_iadd d_Mo_attempt_743 ⟨(by omega), (by omega)⟩ ?_
                refine ax_aald (b := 205 + (30 + i).toNat) d_Mo_attempt_744 ⟨by rw [(k_204 S)]; decide, by rw [(k_204 S)]; decide⟩ (by omega) (by rw [n_204 S]; omega) (g_204 S (by omega) (by omega)) ?_
                refine aw_iload d_Mo_attempt_745 rfl ?_
                refine ax_ialde (x := (sgR 2 sk rh mu t) i c) d_Mo_attempt_747 (kr_204 S (by omega)) (by omega) (by rw [nr_204 S (by omega)]; omega) (r4c (by omega)) ?_
                refine ax_V (st := [vi (dHigh 261888 (((sgR 2 sk rh mu t) i c + (prB (sgB 2 sk rh mu t) (sgD 2 sk i) c)) % 8380417)), vi c, vr (254 + i.toNat)]) (as := [vi ((sgR 2 sk rh mu t) i c)]) (b := 175) (v := some (vi (dHigh 261888 ((sgR 2 sk rh mu t) i c)))) (h' := sD h K4 u_649) d_Mo_attempt_748 cs_Mo_attempt_748 (k_175 S) (by have z := c_Mo_high (l := l) (G := G) (L := u_649) (I := K4) (r := (sgR 2 sk rh mu t) i c) S (by rw [gp4]; decide) (sgR_in c hc4.1 (by omega)); rw [gp4] at z; exact z) rfl rfl rfl ?_
                show AW l G M_Mo_attempt P 751 [(4, vi 1), (7, vi (cen (prB (sgB 2 sk rh mu t) (sgD 2 sk i) c))), (6, vi c), (5, vi i), (3, vi hn), (2, vi 120), (0, vr 175)] [vi (dHigh 261888 ((sgR 2 sk rh mu t) i c)), vi (dHigh 261888 (((sgR 2 sk rh mu t) i c + (prB (sgB 2 sk rh mu t) (sgD 2 sk i) c)) % 8380417)), vi c, vr (254 + i.toNat)] (sD h K4 u_649)
                refine aw_icmp_eq (tgt := 758) d_Mo_attempt_751 (by decide) (fun c_751 => ?_) (fun c_751 => ?_)
                · skip
                  have fy : ¬ (sgF 2 sk rh mu t) (256 * i.toNat + c.toNat) = true := fun z => fat.1 z c_751
                  refine aw_iconst d_Mo_attempt_758 ⟨by decide, by decide⟩ ?_
                  refine ax_zast d_Mo_attempt_759 (kr_253 S (by omega)) (by omega) (by omega) (by rw [nr_253 S (by omega)]; omega) (by omega) ?_
                  refine aw_aload_n d_Mo_attempt_760 rfl rfl ?_
                  refine ax_getR (b := 253) d_Mo_attempt_761 fd_Mo_81 (k_175 S) (r_175_29 S) ?_
                  refine aw_iload d_Mo_attempt_764 rfl ?_
                  refine ax_aald (b := 254 + i.toNat) d_Mo_attempt_766 ⟨by rw [(k_253 S)]; decide, by rw [(k_253 S)]; decide⟩ (by omega) (by rw [n_253 S]; omega) (g_253 S (by omega) (by omega)) ?_
                  refine aw_iload d_Mo_attempt_767 rfl ?_
                  refine ax_zalde (x := 0) d_Mo_attempt_769 (kr_253 S (by omega)) (by omega) (by rw [nr_253 S (by omega)]; omega) (a_up_at) ?_
                  refine aw_if_eq (tgt := 776) d_Mo_attempt_770 (by decide) (fun c_770 => ?_) (fun c_770 => False.elim (by omega))
                  refine ax_iinc (lv' := [(6, vi (c + 1)), (4, vi 1), (7, vi (cen (prB (sgB 2 sk rh mu t) (sgD 2 sk i) c))), (5, vi i), (3, vi hn), (2, vi 120), (0, vr 175)]) d_Mo_attempt_776 rfl (by decide) ⟨(by omega), (by omega)⟩ rfl ?_
                  refine aw_goto (tgt := 655) d_Mo_attempt_779 (by decide) ?_
                  refine aw_sub (lv' := [(6, vi (c + 1)), (5, vi i), (4, vi 1), (3, vi hn), (2, vi 120), (0, vr 175)]) (by simp) ?_
                  exact ih_655 _ (by omega) (c + 1) hn 1 (a_up K4 (254 + i.toNat) c 0) (by omega) (F4.tr (FR.up (p := fun a => a = 252 ∨ 235 ≤ a ∧ a ≤ 242 ∨ 254 ≤ a ∧ a ≤ 261) (by omega)) (fun a x => ⟨x, x⟩)) (t4.tr (FR.up (p := fun a => a = 254 + i.toNat) rfl) (fun a x => ⟨x, x⟩)) (fun x a b => by by_cases z : x = c; exact (by rw [z, a_up_at, if_neg fy]); exact (by rw [a_up_ne (Or.inr z)]; exact w4 x a (by omega))) (by rw [eN, hIt_n fy]; exact e4) (⟨Or.inr rfl, fun z => absurd z (by decide), fun z => by have y := z.2 c hc4.1 (by omega); unfold cen at *; (repeat (first | omega | split at *))⟩) rfl
                · skip
                  have fy : (sgF 2 sk rh mu t) (256 * i.toNat + c.toNat) = true := fat.2 c_751
                  refine aw_iconst d_Mo_attempt_754 ⟨by decide, by decide⟩ ?_
                  refine aw_goto (tgt := 759) d_Mo_attempt_755 (by decide) ?_
                  refine ax_zast d_Mo_attempt_759 (kr_253 S (by omega)) (by omega) (by omega) (by rw [nr_253 S (by omega)]; omega) (by omega) ?_
                  refine aw_aload_n d_Mo_attempt_760 rfl rfl ?_
                  refine ax_getR (b := 253) d_Mo_attempt_761 fd_Mo_81 (k_175 S) (r_175_29 S) ?_
                  refine aw_iload d_Mo_attempt_764 rfl ?_
                  refine ax_aald (b := 254 + i.toNat) d_Mo_attempt_766 ⟨by rw [(k_253 S)]; decide, by rw [(k_253 S)]; decide⟩ (by omega) (by rw [n_253 S]; omega) (g_253 S (by omega) (by omega)) ?_
                  refine aw_iload d_Mo_attempt_767 rfl ?_
                  refine ax_zalde (x := 1) d_Mo_attempt_769 (kr_253 S (by omega)) (by omega) (by rw [nr_253 S (by omega)]; omega) (a_up_at) ?_
                  refine aw_if_eq (tgt := 776) d_Mo_attempt_770 (by decide) (fun c_770 => False.elim (by omega)) (fun c_770 => ?_)
                  refine ax_iinc (lv' := [(3, vi (hn + 1)), (4, vi 1), (7, vi (cen (prB (sgB 2 sk rh mu t) (sgD 2 sk i) c))), (6, vi c), (5, vi i), (2, vi 120), (0, vr 175)]) d_Mo_attempt_773 rfl (by decide) ⟨(by omega), (by omega)⟩ rfl ?_
                  refine ax_iinc (lv' := [(6, vi (c + 1)), (3, vi (hn + 1)), (4, vi 1), (7, vi (cen (prB (sgB 2 sk rh mu t) (sgD 2 sk i) c))), (5, vi i), (2, vi 120), (0, vr 175)]) d_Mo_attempt_776 rfl (by decide) ⟨(by omega), (by omega)⟩ rfl ?_
                  refine aw_goto (tgt := 655) d_Mo_attempt_779 (by decide) ?_
                  refine aw_sub (lv' := [(6, vi (c + 1)), (5, vi i), (4, vi 1), (3, vi (hn + 1)), (2, vi 120), (0, vr 175)]) (by simp) ?_
                  exact ih_655 _ (by omega) (c + 1) (hn + 1) 1 (a_up K4 (254 + i.toNat) c 1) (by omega) (F4.tr (FR.up (p := fun a => a = 252 ∨ 235 ≤ a ∧ a ≤ 242 ∨ 254 ≤ a ∧ a ≤ 261) (by omega)) (fun a x => ⟨x, x⟩)) (t4.tr (FR.up (p := fun a => a = 254 + i.toNat) rfl) (fun a x => ⟨x, x⟩)) (fun x a b => by by_cases z : x = c; exact (by rw [z, a_up_at, if_pos fy]); exact (by rw [a_up_ne (Or.inr z)]; exact w4 x a (by omega))) (by rw [eN, hIt_y fy]; show hn + 1 = _ + 1; rw [e4]) (⟨Or.inr rfl, fun z => absurd z (by decide), fun z => by have y := z.2 c hc4.1 (by omega); unfold cen at *; (repeat (first | omega | split at *))⟩) rfl
              · skip
                refine aw_iload d_Mo_attempt_684 rfl ?_
                refine aw_aload_n d_Mo_attempt_686 rfl rfl ?_
                refine ax_getIe (x := 261888) d_Mo_attempt_687 fd_Mo_242 (k_175 S) (Eq.trans (F4.1 175 36 (by omega) (Or.inr (by decide))) (dr2_36 D)) ?_
                refine ax_ineg d_Mo_attempt_690 (by omega) (by omega) ?_
                refine aw_icmp_gt (tgt := 697) d_Mo_attempt_691 (by decide) (fun c_691 => ?_) (fun c_691 => ?_)
                · skip
                  have wn : (¬ (261888 ≤ (prB (sgB 2 sk rh mu t) (sgD 2 sk i) c) ∧ (prB (sgB 2 sk rh mu t) (sgD 2 sk i) c) ≤ 8380417 - 261888)) := by omega
                  refine aw_aload_n d_Mo_attempt_697 rfl rfl ?_
                  refine ax_getR (b := 253) d_Mo_attempt_698 fd_Mo_81 (k_175 S) (r_175_29 S) ?_
                  refine aw_iload d_Mo_attempt_701 rfl ?_
                  refine ax_aald (b := 254 + i.toNat) d_Mo_attempt_703 ⟨by rw [(k_253 S)]; decide, by rw [(k_253 S)]; decide⟩ (by omega) (by rw [n_253 S]; omega) (g_253 S (by omega) (by omega)) ?_
                  refine aw_iload d_Mo_attempt_704 rfl ?_
                  refine aw_aload_n d_Mo_attempt_706 rfl rfl ?_
                  refine aw_aload_n d_Mo_attempt_707 rfl rfl ?_
                  refine ax_getR (b := 204) d_Mo_attempt_708 fd_Mo_76 (k_175 S) (r_175_28 S) ?_
                  refine aw_bipush d_Mo_attempt_711 ⟨by decide, by decide⟩ (by decide) ?_
                  refine aw_iload d_Mo_attempt_713 rfl ?_
                  refine ax_iadd d_Mo_attempt_715 ⟨(by omega), (by omega)⟩ ?_
                  refine ax_aald (b := 205 + (30 + i).toNat) d_Mo_attempt_716 ⟨by rw [(k_204 S)]; decide, by rw [(k_204 S)]; decide⟩ (by omega) (by rw [n_204 S]; omega) (g_204 S (by omega) (by omega)) ?_
                  refine aw_iload d_Mo_attempt_717 rfl ?_
                  refine ax_ialde (x := (sgR 2 sk rh mu t) i c) d_Mo_attempt_719 (kr_204 S (by omega)) (by omega) (by rw [nr_204 S (by omega)]; omega) (r4c (by omega)) ?_
                  refine aw_iload d_Mo_attempt_720 rfl ?_
                  refine ax_iadd d_Mo_attempt_722 ⟨(by omega), (by omega)⟩ ?_
                  refine aw_ldcw (n := 8380417) d_Mo_attempt_723 lc_Mo_264 ⟨by decide, by decide⟩ ?_
                  refine ax_iadd d_Mo_attempt_726 ⟨(by omega), (by omega)⟩ ?_
                  refine aw_ldcw (n := 8380417) d_Mo_attempt_727 lc_Mo_264 ⟨by decide, by decide⟩ ?_
                  refine ax_irem d_Mo_attempt_730 (by omega) (by omega) ?_
                  refine ax_ti (x := ((sgR 2 sk rh mu t) i c + (prB (sgB 2 sk rh mu t) (sgD 2 sk i) c)) % 8380417) (cen_a c1 c2) ?_
                  refine ax_V (st := [vi c, vr (254 + i.toNat)]) (as := [vi (((sgR 2 sk rh mu t) i c + (prB (sgB 2 sk rh mu t) (sgD 2 sk i) c)) % 8380417)]) (b := 175) (v := some (vi (dHigh 261888 (((sgR 2 sk rh mu t) i c + (prB (sgB 2 sk rh mu t) (sgD 2 sk i) c)) % 8380417)))) (h' := sD h K4 u_649) d_Mo_attempt_731 cs_Mo_attempt_731 (k_175 S) (by have z := c_Mo_high (l := l) (G := G) (L := u_649) (I := K4) (r := ((sgR 2 sk rh mu t) i c + (prB (sgB 2 sk rh mu t) (sgD 2 sk i) c)) % 8380417) S (by rw [gp4]; decide) (by omega); rw [gp4] at z; exact z) rfl rfl rfl ?_
                  show AW l G M_Mo_attempt P 734 [(7, vi (cen (prB (sgB 2 sk rh mu t) (sgD 2 sk i) c))), (6, vi c), (5, vi i), (4, vi an), (3, vi hn), (2, vi 120), (0, vr 175)] [vi (dHigh 261888 (((sgR 2 sk rh mu t) i c + (prB (sgB 2 sk rh mu t) (sgD 2 sk i) c)) % 8380417)), vi c, vr (254 + i.toNat)] (sD h K4 u_649)
                  refine aw_aload_n d_Mo_attempt_734 rfl rfl ?_
                  refine aw_aload_n d_Mo_attempt_735 rfl rfl ?_
                  refine ax_getR (b := 204) d_Mo_attempt_736 fd_Mo_76 (k_175 S) (r_175_28 S) ?_
                  refine aw_bipush d_Mo_attempt_739 ⟨by decide, by decide⟩ (by decide) ?_
                  refine aw_iload d_Mo_attempt_741 rfl ?_
                  refine ax_iadd d_Mo_attempt_743 ⟨(by omega), (by omega)⟩ ?_
                  refine ax_aald (b := 205 + (30 + i).toNat) d_Mo_attempt_744 ⟨by rw [(k_204 S)]; decide, by rw [(k_204 S)]; decide⟩ (by omega) (by rw [n_204 S]; omega) (g_204 S (by omega) (by omega)) ?_
                  refine aw_iload d_Mo_attempt_745 rfl ?_
                  refine ax_ialde (x := (sgR 2 sk rh mu t) i c) d_Mo_attempt_747 (kr_204 S (by omega)) (by omega) (by rw [nr_204 S (by omega)]; omega) (r4c (by omega)) ?_
                  refine ax_V (st := [vi (dHigh 261888 (((sgR 2 sk rh mu t) i c + (prB (sgB 2 sk rh mu t) (sgD 2 sk i) c)) % 8380417)), vi c, vr (254 + i.toNat)]) (as := [vi ((sgR 2 sk rh mu t) i c)]) (b := 175) (v := some (vi (dHigh 261888 ((sgR 2 sk rh mu t) i c)))) (h' := sD h K4 u_649) d_Mo_attempt_748 cs_Mo_attempt_748 (k_175 S) (by have z := c_Mo_high (l := l) (G := G) (L := u_649) (I := K4) (r := (sgR 2 sk rh mu t) i c) S (by rw [gp4]; decide) (sgR_in c hc4.1 (by omega)); rw [gp4] at z; exact z) rfl rfl rfl ?_
                  show AW l G M_Mo_attempt P 751 [(7, vi (cen (prB (sgB 2 sk rh mu t) (sgD 2 sk i) c))), (6, vi c), (5, vi i), (4, vi an), (3, vi hn), (2, vi 120), (0, vr 175)] [vi (dHigh 261888 ((sgR 2 sk rh mu t) i c)), vi (dHigh 261888 (((sgR 2 sk rh mu t) i c + (prB (sgB 2 sk rh mu t) (sgD 2 sk i) c)) % 8380417)), vi c, vr (254 + i.toNat)] (sD h K4 u_649)
                  refine aw_icmp_eq (tgt := 758) d_Mo_attempt_751 (by decide) (fun c_751 => ?_) (fun c_751 => ?_)
                  · skip
                    have fy : ¬ (sgF 2 sk rh mu t) (256 * i.toNat + c.toNat) = true := fun z => fat.1 z c_751
                    refine aw_iconst d_Mo_attempt_758 ⟨by decide, by decide⟩ ?_
                    refine ax_zast d_Mo_attempt_759 (kr_253 S (by omega)) (by omega) (by omega) (by rw [nr_253 S (by omega)]; omega) (by omega) ?_
                    refine aw_aload_n d_Mo_attempt_760 rfl rfl ?_
                    refine ax_getR (b := 253) d_Mo_attempt_761 fd_Mo_81 (k_175 S) (r_175_29 S) ?_
                    refine aw_iload d_Mo_attempt_764 rfl ?_
                    refine ax_aald (b := 254 + i.toNat) d_Mo_attempt_766 ⟨by rw [(k_253 S)]; decide, by rw [(k_253 S)]; decide⟩ (by omega) (by rw [n_253 S]; omega) (g_253 S (by omega) (by omega)) ?_
                    refine aw_iload d_Mo_attempt_767 rfl ?_
                    refine ax_zalde (x := 0) d_Mo_attempt_769 (kr_253 S (by omega)) (by omega) (by rw [nr_253 S (by omega)]; omega) (a_up_at) ?_
                    refine aw_if_eq (tgt := 776) d_Mo_attempt_770 (by decide) (fun c_770 => ?_) (fun c_770 => False.elim (by omega))
                    refine ax_iinc (lv' := [(6, vi (c + 1)), (7, vi (cen (prB (sgB 2 sk rh mu t) (sgD 2 sk i) c))), (5, vi i), (4, vi an), (3, vi hn), (2, vi 120), (0, vr 175)]) d_Mo_attempt_776 rfl (by decide) ⟨(by omega), (by omega)⟩ rfl ?_
                    refine aw_goto (tgt := 655) d_Mo_attempt_779 (by decide) ?_
                    refine aw_sub (lv' := [(6, vi (c + 1)), (5, vi i), (4, vi an), (3, vi hn), (2, vi 120), (0, vr 175)]) (by simp) ?_
                    exact ih_655 _ (by omega) (c + 1) hn an (a_up K4 (254 + i.toNat) c 0) (by omega) (F4.tr (FR.up (p := fun a => a = 252 ∨ 235 ≤ a ∧ a ≤ 242 ∨ 254 ≤ a ∧ a ≤ 261) (by omega)) (fun a x => ⟨x, x⟩)) (t4.tr (FR.up (p := fun a => a = 254 + i.toNat) rfl) (fun a x => ⟨x, x⟩)) (fun x a b => by by_cases z : x = c; exact (by rw [z, a_up_at, if_neg fy]); exact (by rw [a_up_ne (Or.inr z)]; exact w4 x a (by omega))) (by rw [eN, hIt_n fy]; exact e4) (⟨a4.1, fun z => ⟨(a4.2.1 z).1, fun x a b => by by_cases y : x = c; exact (by rw [y]; exact wn); exact (a4.2.1 z).2 x a (by omega)⟩, fun z => a4.2.2 ⟨z.1, fun x a b => z.2 x a (by omega)⟩⟩) rfl
                  · skip
                    have fy : (sgF 2 sk rh mu t) (256 * i.toNat + c.toNat) = true := fat.2 c_751
                    refine aw_iconst d_Mo_attempt_754 ⟨by decide, by decide⟩ ?_
                    refine aw_goto (tgt := 759) d_Mo_attempt_755 (by decide) ?_
                    refine ax_zast d_Mo_attempt_759 (kr_253 S (by omega)) (by omega) (by omega) (by rw [nr_253 S (by omega)]; omega) (by omega) ?_
                    refine aw_aload_n d_Mo_attempt_760 rfl rfl ?_
                    refine ax_getR (b := 253) d_Mo_attempt_761 fd_Mo_81 (k_175 S) (r_175_29 S) ?_
                    refine aw_iload d_Mo_attempt_764 rfl ?_
                    refine ax_aald (b := 254 + i.toNat) d_Mo_attempt_766 ⟨by rw [(k_253 S)]; decide, by rw [(k_253 S)]; decide⟩ (by omega) (by rw [n_253 S]; omega) (g_253 S (by omega) (by omega)) ?_
                    refine aw_iload d_Mo_attempt_767 rfl ?_
                    refine ax_zalde (x := 1) d_Mo_attempt_769 (kr_253 S (by omega)) (by omega) (by rw [nr_253 S (by omega)]; omega) (a_up_at) ?_
                    refine aw_if_eq (tgt := 776) d_Mo_attempt_770 (by decide) (fun c_770 => False.elim (by omega)) (fun c_770 => ?_)
                    refine ax_iinc (lv' := [(3, vi (hn + 1)), (7, vi (cen (prB (sgB 2 sk rh mu t) (sgD 2 sk i) c))), (6, vi c), (5, vi i), (4, vi an), (2, vi 120), (0, vr 175)]) d_Mo_attempt_773 rfl (by decide) ⟨(by omega), (by omega)⟩ rfl ?_
                    refine ax_iinc (lv' := [(6, vi (c + 1)), (3, vi (hn + 1)), (7, vi (cen (prB (sgB 2 sk rh mu t) (sgD 2 sk i) c))), (5, vi i), (4, vi an), (2, vi 120), (0, vr 175)]) d_Mo_attempt_776 rfl (by decide) ⟨(by omega), (by omega)⟩ rfl ?_
                    refine aw_goto (tgt := 655) d_Mo_attempt_779 (by decide) ?_
                    refine aw_sub (lv' := [(6, vi (c + 1)), (5, vi i), (4, vi an), (3, vi (hn + 1)), (2, vi 120), (0, vr 175)]) (by simp) ?_
                    exact ih_655 _ (by omega) (c + 1) (hn + 1) an (a_up K4 (254 + i.toNat) c 1) (by omega) (F4.tr (FR.up (p := fun a => a = 252 ∨ 235 ≤ a ∧ a ≤ 242 ∨ 254 ≤ a ∧ a ≤ 261) (by omega)) (fun a x => ⟨x, x⟩)) (t4.tr (FR.up (p := fun a => a = 254 + i.toNat) rfl) (fun a x => ⟨x, x⟩)) (fun x a b => by by_cases z : x = c; exact (by rw [z, a_up_at, if_pos fy]); exact (by rw [a_up_ne (Or.inr z)]; exact w4 x a (by omega))) (by rw [eN, hIt_y fy]; show hn + 1 = _ + 1; rw [e4]) (⟨a4.1, fun z => ⟨(a4.2.1 z).1, fun x a b => by by_cases y : x = c; exact (by rw [y]; exact wn); exact (a4.2.1 z).2 x a (by omega)⟩, fun z => a4.2.2 ⟨z.1, fun x a b => z.2 x a (by omega)⟩⟩) rfl
                · skip
                  refine aw_iconst d_Mo_attempt_694 ⟨by decide, by decide⟩ ?_
                  refine aw_istore (lv' := [(4, vi 1), (7, vi (cen (prB (sgB 2 sk rh mu t) (sgD 2 sk i) c))), (6, vi c), (5, vi i), (3, vi hn), (2, vi 120), (0, vr 175)]) d_Mo_attempt_695 (by decide) rfl ?_
                  refine aw_aload_n d_Mo_attempt_697 rfl rfl ?_
                  refine ax_getR (b := 253) d_Mo_attempt_698 fd_Mo_81 (k_175 S) (r_175_29 S) ?_
                  refine aw_iload d_Mo_attempt_701 rfl ?_
                  refine ax_aald (b := 254 + i.toNat) d_Mo_attempt_703 ⟨by rw [(k_253 S)]; decide, by rw [(k_253 S)]; decide⟩ (by omega) (by rw [n_253 S]; omega) (g_253 S (by omega) (by omega)) ?_
                  refine aw_iload d_Mo_attempt_704 rfl ?_
                  refine aw_aload_n d_Mo_attempt_706 rfl rfl ?_
                  refine aw_aload_n d_Mo_attempt_707 rfl rfl ?_
                  refine ax_getR (b := 204) d_Mo_attempt_708 fd_Mo_76 (k_175 S) (r_175_28 S) ?_
                  refine aw_bipush d_Mo_attempt_711 ⟨by decide, by decide⟩ (by decide) ?_
                  refine aw_iload d_Mo_attempt_713 rfl ?_
                  refine ax_iadd d_Mo_attempt_715 ⟨(by omega), (by omega)⟩ ?_
                  refine ax_aald (b := 205 + (30 + i).toNat) d_Mo_attempt_716 ⟨by rw [(k_204 S)]; decide, by rw [(k_204 S)]; decide⟩ (by omega) (by rw [n_204 S]; omega) (g_204 S (by omega) (by omega)) ?_
                  refine aw_iload d_Mo_attempt_717 rfl ?_
                  refine ax_ialde (x := (sgR 2 sk rh mu t) i c) d_Mo_attempt_719 (kr_204 S (by omega)) (by omega) (by rw [nr_204 S (by omega)]; omega) (r4c (by omega)) ?_
                  refine aw_iload d_Mo_attempt_720 rfl ?_
                  refine ax_iadd d_Mo_attempt_722 ⟨(by omega), (by omega)⟩ ?_
                  refine aw_ldcw (n := 8380417) d_Mo_attempt_723 lc_Mo_264 ⟨by decide, by decide⟩ ?_
                  refine ax_iadd d_Mo_attempt_726 ⟨(by omega), (by omega)⟩ ?_
                  refine aw_ldcw (n := 8380417) d_Mo_attempt_727 lc_Mo_264 ⟨by decide, by decide⟩ ?_
                  refine ax_irem d_Mo_attempt_730 (by omega) (by omega) ?_
                  refine ax_ti (x := ((sgR 2 sk rh mu t) i c + (prB (sgB 2 sk rh mu t) (sgD 2 sk i) c)) % 8380417) (cen_a c1 c2) ?_
                  refine ax_V (st := [vi c, vr (254 + i.toNat)]) (as := [vi (((sgR 2 sk rh mu t) i c + (prB (sgB 2 sk rh mu t) (sgD 2 sk i) c)) % 8380417)]) (b := 175) (v := some (vi (dHigh 261888 (((sgR 2 sk rh mu t) i c + (prB (sgB 2 sk rh mu t) (sgD 2 sk i) c)) % 8380417)))) (h' := sD h K4 u_649) d_Mo_attempt_731 cs_Mo_attempt_731 (k_175 S) (by have z := c_Mo_high (l := l) (G := G) (L := u_649) (I := K4) (r := ((sgR 2 sk rh mu t) i c + (prB (sgB 2 sk rh mu t) (sgD 2 sk i) c)) % 8380417) S (by rw [gp4]; decide) (by omega); rw [gp4] at z; exact z) rfl rfl rfl ?_
                  show AW l G M_Mo_attempt P 734 [(4, vi 1), (7, vi (cen (prB (sgB 2 sk rh mu t) (sgD 2 sk i) c))), (6, vi c), (5, vi i), (3, vi hn), (2, vi 120), (0, vr 175)] [vi (dHigh 261888 (((sgR 2 sk rh mu t) i c + (prB (sgB 2 sk rh mu t) (sgD 2 sk i) c)) % 8380417)), vi c, vr (254 + i.toNat)] (sD h K4 u_649)
                  refine aw_aload_n d_Mo_attempt_734 rfl rfl ?_
                  refine aw_aload_n d_Mo_attempt_735 rfl rfl ?_
                  refine ax_getR (b := 204) d_Mo_attempt_736 fd_Mo_76 (k_175 S) (r_175_28 S) ?_
                  refine aw_bipush d_Mo_attempt_739 ⟨by decide, by decide⟩ (by decide) ?_
                  refine aw_iload d_Mo_attempt_741 rfl ?_
                  refine ax_iadd d_Mo_attempt_743 ⟨(by omega), (by omega)⟩ ?_
                  refine ax_aald (b := 205 + (30 + i).toNat) d_Mo_attempt_744 ⟨by rw [(k_204 S)]; decide, by rw [(k_204 S)]; decide⟩ (by omega) (by rw [n_204 S]; omega) (g_204 S (by omega) (by omega)) ?_
                  refine aw_iload d_Mo_attempt_745 rfl ?_
                  refine ax_ialde (x := (sgR 2 sk rh mu t) i c) d_Mo_attempt_747 (kr_204 S (by omega)) (by omega) (by rw [nr_204 S (by omega)]; omega) (r4c (by omega)) ?_
                  refine ax_V (st := [vi (dHigh 261888 (((sgR 2 sk rh mu t) i c + (prB (sgB 2 sk rh mu t) (sgD 2 sk i) c)) % 8380417)), vi c, vr (254 + i.toNat)]) (as := [vi ((sgR 2 sk rh mu t) i c)]) (b := 175) (v := some (vi (dHigh 261888 ((sgR 2 sk rh mu t) i c)))) (h' := sD h K4 u_649) d_Mo_attempt_748 cs_Mo_attempt_748 (k_175 S) (by have z := c_Mo_high (l := l) (G := G) (L := u_649) (I := K4) (r := (sgR 2 sk rh mu t) i c) S (by rw [gp4]; decide) (sgR_in c hc4.1 (by omega)); rw [gp4] at z; exact z) rfl rfl rfl ?_
                  show AW l G M_Mo_attempt P 751 [(4, vi 1), (7, vi (cen (prB (sgB 2 sk rh mu t) (sgD 2 sk i) c))), (6, vi c), (5, vi i), (3, vi hn), (2, vi 120), (0, vr 175)] [vi (dHigh 261888 ((sgR 2 sk rh mu t) i c)), vi (dHigh 261888 (((sgR 2 sk rh mu t) i c + (prB (sgB 2 sk rh mu t) (sgD 2 sk i) c)) % 8380417)), vi c, vr (254 + i.toNat)] (sD h K4 u_649)
                  refine aw_icmp_eq (tgt := 758) d_Mo_attempt_751 (by decide) (fun c_751 => ?_) (fun c_751 => ?_)
                  · skip
                    have fy : ¬ (sgF 2 sk rh mu t) (256 * i.toNat + c.toNat) = true := fun z => fat.1 z c_751
                    refine aw_iconst d_Mo_attempt_758 ⟨by decide, by decide⟩ ?_
                    refine ax_zast d_Mo_attempt_759 (kr_253 S (by omega)) (by omega) (by omega) (by rw [nr_253 S (by omega)]; omega) (by omega) ?_
                    refine aw_aload_n d_Mo_attempt_760 rfl rfl ?_
                    refine ax_getR (b := 253) d_Mo_attempt_761 fd_Mo_81 (k_175 S) (r_175_29 S) ?_
                    refine aw_iload d_Mo_attempt_764 rfl ?_
                    refine ax_aald (b := 254 + i.toNat) d_Mo_attempt_766 ⟨by rw [(k_253 S)]; decide, by rw [(k_253 S)]; decide⟩ (by omega) (by rw [n_253 S]; omega) (g_253 S (by omega) (by omega)) ?_
                    refine aw_iload d_Mo_attempt_767 rfl ?_
                    refine ax_zalde (x := 0) d_Mo_attempt_769 (kr_253 S (by omega)) (by omega) (by rw [nr_253 S (by omega)]; omega) (a_up_at) ?_
                    refine aw_if_eq (tgt := 776) d_Mo_attempt_770 (by decide) (fun c_770 => ?_) (fun c_770 => False.elim (by omega))
                    refine ax_iinc (lv' := [(6, vi (c + 1)), (4, vi 1), (7, vi (cen (prB (sgB 2 sk rh mu t) (sgD 2 sk i) c))), (5, vi i), (3, vi hn), (2, vi 120), (0, vr 175)]) d_Mo_attempt_776 rfl (by decide) ⟨(by omega), (by omega)⟩ rfl ?_
                    refine aw_goto (tgt := 655) d_Mo_attempt_779 (by decide) ?_
                    refine aw_sub (lv' := [(6, vi (c + 1)), (5, vi i), (4, vi 1), (3, vi hn), (2, vi 120), (0, vr 175)]) (by simp) ?_
                    exact ih_655 _ (by omega) (c + 1) hn 1 (a_up K4 (254 + i.toNat) c 0) (by omega) (F4.tr (FR.up (p := fun a => a = 252 ∨ 235 ≤ a ∧ a ≤ 242 ∨ 254 ≤ a ∧ a ≤ 261) (by omega)) (fun a x => ⟨x, x⟩)) (t4.tr (FR.up (p := fun a => a = 254 + i.toNat) rfl) (fun a x => ⟨x, x⟩)) (fun x a b => by by_cases z : x = c; exact (by rw [z, a_up_at, if_neg fy]); exact (by rw [a_up_ne (Or.inr z)]; exact w4 x a (by omega))) (by rw [eN, hIt_n fy]; exact e4) (⟨Or.inr rfl, fun z => absurd z (by decide), fun z => by have y := z.2 c hc4.1 (by omega); unfold cen at *; (repeat (first | omega | split at *))⟩) rfl
                  · skip
                    have fy : (sgF 2 sk rh mu t) (256 * i.toNat + c.toNat) = true := fat.2 c_751
                    refine aw_iconst d_Mo_attempt_754 ⟨by decide, by decide⟩ ?_
                    refine aw_goto (tgt := 759) d_Mo_attempt_755 (by decide) ?_
                    refine ax_zast d_Mo_attempt_759 (kr_253 S (by omega)) (by omega) (by omega) (by rw [nr_253 S (by omega)]; omega) (by omega) ?_
                    refine aw_aload_n d_Mo_attempt_760 rfl rfl ?_
                    refine ax_getR (b := 253) d_Mo_attempt_761 fd_Mo_81 (k_175 S) (r_175_29 S) ?_
                    refine aw_iload d_Mo_attempt_764 rfl ?_
                    refine ax_aald (b := 254 + i.toNat) d_Mo_attempt_766 ⟨by rw [(k_253 S)]; decide, by rw [(k_253 S)]; decide⟩ (by omega) (by rw [n_253 S]; omega) (g_253 S (by omega) (by omega)) ?_
                    refine aw_iload d_Mo_attempt_767 rfl ?_
                    refine ax_zalde (x := 1) d_Mo_attempt_769 (kr_253 S (by omega)) (by omega) (by rw [nr_253 S (by omega)]; omega) (a_up_at) ?_
                    refine aw_if_eq (tgt := 776) d_Mo_attempt_770 (by decide) (fun c_770 => False.elim (by omega)) (fun c_770 => ?_)
                    refine ax_iinc (lv' := [(3, vi (hn + 1)), (4, vi 1), (7, vi (cen (prB (sgB 2 sk rh mu t) (sgD 2 sk i) c))), (6, vi c), (5, vi i), (2, vi 120), (0, vr 175)]) d_Mo_attempt_773 rfl (by decide) ⟨(by omega), (by omega)⟩ rfl ?_
                    refine ax_iinc (lv' := [(6, vi (c + 1)), (3, vi (hn + 1)), (4, vi 1), (7, vi (cen (prB (sgB 2 sk rh mu t) (sgD 2 sk i) c))), (5, vi i), (2, vi 120), (0, vr 175)]) d_Mo_attempt_776 rfl (by decide) ⟨(by omega), (by omega)⟩ rfl ?_
                    refine aw_goto (tgt := 655) d_Mo_attempt_779 (by decide) ?_
                    refine aw_sub (lv' := [(6, vi (c + 1)), (5, vi i), (4, vi 1), (3, vi (hn + 1)), (2, vi 120), (0, vr 175)]) (by simp) ?_
                    exact ih_655 _ (by omega) (c + 1) (hn + 1) 1 (a_up K4 (254 + i.toNat) c 1) (by omega) (F4.tr (FR.up (p := fun a => a = 252 ∨ 235 ≤ a ∧ a ≤ 242 ∨ 254 ≤ a ∧ a ≤ 261) (by omega)) (fun a x => ⟨x, x⟩)) (t4.tr (FR.up (p := fun a => a = 254 + i.toNat) rfl) (fun a x => ⟨x, x⟩)) (fun x a b => by by_cases z : x = c; exact (by rw [z, a_up_at, if_pos fy]); exact (by rw [a_up_ne (Or.inr z)]; exact w4 x a (by omega))) (by rw [eN, hIt_y fy]; show hn + 1 = _ + 1; rw [e4]) (⟨Or.inr rfl, fun z => absurd z (by decide), fun z => by have y := z.2 c hc4.1 (by omega); unfold cen at *; (repeat (first | omega | split at *))⟩) rfl
          skip
          exact lp_655 _ 0 hn an3 (rowTo K3 252 256 (few (K3 251) (K3 (205 + (15 + i).toNat)))) (by omega) (F3.tr (FR.row (p := fun a => a = 252 ∨ 235 ≤ a ∧ a ≤ 242 ∨ 254 ≤ a ∧ a ≤ 261) (by omega) l2) (fun a x => ⟨x, x⟩)) (FR.rfl') (fun x a b => by omega) (e2) (⟨a3.1, fun z => ⟨z, fun x a b => by omega⟩, fun z => z.1⟩) rfl
        · skip
          have c1 := prB_in (B := (sgB 2 sk rh mu t)) (V := (sgV 2 sk (7 + i))) c hc.1 (by omega)
          have c2 := imF_in (A := sgA 2 sk) (V := fun j => fwd rt (sgM 2 rh (t * pL 2 + j))) (l := pL 2) (n := (pL 2).toNat) (m := i) c hc.1 (by omega)
          have c3 := cen_b c1
          have c2 : 0 ≤ (sgW 2 sk rh t) i c ∧ (sgW 2 sk rh t) i c < 8380417 := c2
          refine aw_aload_n d_Mo_attempt_529 rfl rfl ?_
          refine ax_getR (b := 204) d_Mo_attempt_530 fd_Mo_76 (k_175 S) (r_175_28 S) ?_
          refine aw_bipush d_Mo_attempt_533 ⟨by decide, by decide⟩ (by decide) ?_
          refine aw_iload d_Mo_attempt_535 rfl ?_
          refine ax_iadd d_Mo_attempt_537 ⟨(by omega), (by omega)⟩ ?_
          refine ax_aald (b := 205 + (30 + i).toNat) d_Mo_attempt_538 ⟨by rw [(k_204 S)]; decide, by rw [(k_204 S)]; decide⟩ (by omega) (by rw [n_204 S]; omega) (g_204 S (by omega) (by omega)) ?_
          refine aw_iload d_Mo_attempt_539 rfl ?_
          refine aw_aload_n d_Mo_attempt_541 rfl rfl ?_
          refine ax_getR (b := 204) d_Mo_attempt_542 fd_Mo_76 (k_175 S) (r_175_28 S) ?_
          refine aw_bipush d_Mo_attempt_545 ⟨by decide, by decide⟩ (by decide) ?_
          refine aw_iload d_Mo_attempt_547 rfl ?_
          refine ax_iadd d_Mo_attempt_549 ⟨(by omega), (by omega)⟩ ?_
          refine ax_aald (b := 205 + (30 + i).toNat) d_Mo_attempt_550 ⟨by rw [(k_204 S)]; decide, by rw [(k_204 S)]; decide⟩ (by omega) (by rw [n_204 S]; omega) (g_204 S (by omega) (by omega)) ?_
          refine aw_iload d_Mo_attempt_551 rfl ?_
          refine ax_ialde (x := (sgW 2 sk rh t) i c) d_Mo_attempt_553 (kr_204 S (by omega)) (by omega) (by rw [nr_204 S (by omega)]; omega) (r3.2 c (Int.le_refl _) (by omega)) ?_
          refine aw_aload_n d_Mo_attempt_554 rfl rfl ?_
          refine ax_getR (b := 204) d_Mo_attempt_555 fd_Mo_76 (k_175 S) (r_175_28 S) ?_
          refine aw_bipush d_Mo_attempt_558 ⟨by decide, by decide⟩ (by decide) ?_
          refine ax_aald (b := 252) d_Mo_attempt_560 ⟨by rw [(k_204 S)]; decide, by rw [(k_204 S)]; decide⟩ (by omega) (by rw [n_204 S]; omega) (g_204 S (j := 47) (by decide) (by decide)) ?_
          refine aw_iload d_Mo_attempt_561 rfl ?_
          refine ax_ialde (x := cen (prB (sgB 2 sk rh mu t) (sgV 2 sk (7 + i)) c)) d_Mo_attempt_563 (k_252 S) (by omega) (by rw [n_252 S]; omega) (p3 (by omega)) ?_
          refine ax_isub d_Mo_attempt_564 ⟨(by omega), (by omega)⟩ ?_
          refine aw_ldcw (n := 8380417) d_Mo_attempt_565 lc_Mo_264 ⟨by decide, by decide⟩ ?_
          refine ax_iadd d_Mo_attempt_568 ⟨(by omega), (by omega)⟩ ?_
          refine aw_ldcw (n := 8380417) d_Mo_attempt_569 lc_Mo_264 ⟨by decide, by decide⟩ ?_
          refine ax_irem d_Mo_attempt_572 (by omega) (by omega) ?_
          refine ax_ti (x := (sgR 2 sk rh mu t) i c) (by unfold sgR; rw [show pL 2 = 7 from rfl]; exact cen_s c1 c2) ?_
          refine ax_iast d_Mo_attempt_573 (kr_204 S (by omega)) (by omega) (by omega) (by rw [nr_204 S (by omega)]; omega) ?_
          refine aw_aload_n d_Mo_attempt_574 rfl rfl ?_
          refine aw_aload_n d_Mo_attempt_575 rfl rfl ?_
          refine ax_getR (b := 204) d_Mo_attempt_576 fd_Mo_76 (k_175 S) (r_175_28 S) ?_
          refine aw_bipush d_Mo_attempt_579 ⟨by decide, by decide⟩ (by decide) ?_
          refine aw_iload d_Mo_attempt_581 rfl ?_
          refine ax_iadd d_Mo_attempt_583 ⟨(by omega), (by omega)⟩ ?_
          refine ax_aald (b := 205 + (30 + i).toNat) d_Mo_attempt_584 ⟨by rw [(k_204 S)]; decide, by rw [(k_204 S)]; decide⟩ (by omega) (by rw [n_204 S]; omega) (g_204 S (by omega) (by omega)) ?_
          refine aw_iload d_Mo_attempt_585 rfl ?_
          refine ax_ialde (x := (sgR 2 sk rh mu t) i c) d_Mo_attempt_587 (kr_204 S (by omega)) (by omega) (by rw [nr_204 S (by omega)]; omega) (a_up_at) ?_
          refine ax_V (st := []) (as := [vi ((sgR 2 sk rh mu t) i c)]) (b := 175) (v := some (vi (dLow 261888 ((sgR 2 sk rh mu t) i c)))) (h' := sD h (a_up K3 (205 + (30 + i).toNat) c ((sgR 2 sk rh mu t) i c)) u_515) d_Mo_attempt_588 cs_Mo_attempt_588 (k_175 S) (by have z := c_Mo_low (l := l) (G := G) (L := u_515) (I := a_up K3 (205 + (30 + i).toNat) c ((sgR 2 sk rh mu t) i c)) (r := (sgR 2 sk rh mu t) i c) S (by rw [a_up_ne (Or.inl (by omega)), gp3]; decide) (sgR_in c hc.1 (by omega)); rw [a_up_ne (Or.inl (by omega)), gp3] at z; exact z) rfl rfl rfl ?_
          show AW l G M_Mo_attempt P 591 [(6, vi c), (5, vi i), (4, vi an3), (3, vi hn), (2, vi 120), (0, vr 175)] [vi (dLow 261888 ((sgR 2 sk rh mu t) i c))] (sD h (a_up K3 (205 + (30 + i).toNat) c ((sgR 2 sk rh mu t) i c)) u_515)
          refine aw_istore (lv' := [(7, vi (dLow 261888 ((sgR 2 sk rh mu t) i c))), (6, vi c), (5, vi i), (4, vi an3), (3, vi hn), (2, vi 120), (0, vr 175)]) d_Mo_attempt_591 (by decide) rfl ?_
          refine aw_iload d_Mo_attempt_593 rfl ?_
          refine aw_aload_n d_Mo_attempt_595 rfl rfl ?_
          refine ax_getIe (x := 261888) d_Mo_attempt_596 fd_Mo_242 (k_175 S) (Eq.trans (a_up_ne (Or.inl (by omega))) (Eq.trans (F3.1 175 36 (by omega) (Or.inr (by decide))) (dr2_36 D))) ?_
          refine aw_iload_n d_Mo_attempt_599 rfl rfl ?_
          refine ax_isub d_Mo_attempt_600 ⟨(by omega), (by omega)⟩ ?_
          refine ax_ti (x := 261768) (by decide) ?_
          refine aw_icmp_ge (tgt := 615) d_Mo_attempt_601 (by decide) (fun c_601 => ?_) (fun c_601 => ?_)
          · skip
            refine aw_iconst d_Mo_attempt_615 ⟨by decide, by decide⟩ ?_
            refine aw_istore (lv' := [(4, vi 1), (7, vi (dLow 261888 ((sgR 2 sk rh mu t) i c))), (6, vi c), (5, vi i), (3, vi hn), (2, vi 120), (0, vr 175)]) d_Mo_attempt_616 (by decide) rfl ?_
            refine ax_iinc (lv' := [(6, vi (c + 1)), (4, vi 1), (7, vi (dLow 261888 ((sgR 2 sk rh mu t) i c))), (5, vi i), (3, vi hn), (2, vi 120), (0, vr 175)]) d_Mo_attempt_618 rfl (by decide) ⟨(by omega), (by omega)⟩ rfl ?_
            refine aw_goto (tgt := 521) d_Mo_attempt_621 (by decide) ?_
            refine aw_sub (lv' := [(6, vi (c + 1)), (5, vi i), (4, vi 1), (3, vi hn), (2, vi 120), (0, vr 175)]) (by simp) ?_
            exact ih_521 _ (by omega) (c + 1) 1 (a_up K3 (205 + (30 + i).toNat) c ((sgR 2 sk rh mu t) i c)) (by omega) (F3.tr (FR.up (p := fun a => a = 252 ∨ 235 ≤ a ∧ a ≤ 242 ∨ 254 ≤ a ∧ a ≤ 261) (by omega)) (fun a x => ⟨x, x⟩)) (t3.tr (FR.up (p := fun a => a = 205 + (30 + i).toNat) rfl) (fun a x => ⟨x, x⟩)) (⟨fun x a b => by by_cases z : x = c; exact (by rw [z, a_up_at]); exact (by rw [a_up_ne (Or.inr z)]; exact r3.1 x a (by omega)), fun x a b => by rw [a_up_ne (Or.inr (by omega))]; exact r3.2 x (by omega) b⟩) (⟨Or.inr rfl, fun z => absurd z (by decide), fun z => by have := z.2 c hc.1 (by omega); omega⟩) rfl
          · skip
            refine aw_iload d_Mo_attempt_604 rfl ?_
            refine aw_iload_n d_Mo_attempt_606 rfl rfl ?_
            refine aw_aload_n d_Mo_attempt_607 rfl rfl ?_
            refine ax_getIe (x := 261888) d_Mo_attempt_608 fd_Mo_242 (k_175 S) (Eq.trans (a_up_ne (Or.inl (by omega))) (Eq.trans (F3.1 175 36 (by omega) (Or.inr (by decide))) (dr2_36 D))) ?_
            refine ax_isub d_Mo_attempt_611 ⟨(by omega), (by omega)⟩ ?_
            refine ax_ti (x := -261768) (by decide) ?_
            refine aw_icmp_gt (tgt := 618) d_Mo_attempt_612 (by decide) (fun c_612 => ?_) (fun c_612 => ?_)
            · skip
              refine ax_iinc (lv' := [(6, vi (c + 1)), (7, vi (dLow 261888 ((sgR 2 sk rh mu t) i c))), (5, vi i), (4, vi an3), (3, vi hn), (2, vi 120), (0, vr 175)]) d_Mo_attempt_618 rfl (by decide) ⟨(by omega), (by omega)⟩ rfl ?_
              refine aw_goto (tgt := 521) d_Mo_attempt_621 (by decide) ?_
              refine aw_sub (lv' := [(6, vi (c + 1)), (5, vi i), (4, vi an3), (3, vi hn), (2, vi 120), (0, vr 175)]) (by simp) ?_
              exact ih_521 _ (by omega) (c + 1) an3 (a_up K3 (205 + (30 + i).toNat) c ((sgR 2 sk rh mu t) i c)) (by omega) (F3.tr (FR.up (p := fun a => a = 252 ∨ 235 ≤ a ∧ a ≤ 242 ∨ 254 ≤ a ∧ a ≤ 261) (by omega)) (fun a x => ⟨x, x⟩)) (t3.tr (FR.up (p := fun a => a = 205 + (30 + i).toNat) rfl) (fun a x => ⟨x, x⟩)) (⟨fun x a b => by by_cases z : x = c; exact (by rw [z, a_up_at]); exact (by rw [a_up_ne (Or.inr z)]; exact r3.1 x a (by omega)), fun x a b => by rw [a_up_ne (Or.inr (by omega))]; exact r3.2 x (by omega) b⟩) (⟨a3.1, fun z => ⟨(a3.2.1 z).1, fun x a b => by by_cases y : x = c; exact (by rw [y]; omega); exact (a3.2.1 z).2 x a (by omega)⟩, fun z => a3.2.2 ⟨z.1, fun x a b => z.2 x a (by omega)⟩⟩) rfl
            · skip
              refine aw_iconst d_Mo_attempt_615 ⟨by decide, by decide⟩ ?_
              refine aw_istore (lv' := [(4, vi 1), (7, vi (dLow 261888 ((sgR 2 sk rh mu t) i c))), (6, vi c), (5, vi i), (3, vi hn), (2, vi 120), (0, vr 175)]) d_Mo_attempt_616 (by decide) rfl ?_
              refine ax_iinc (lv' := [(6, vi (c + 1)), (4, vi 1), (7, vi (dLow 261888 ((sgR 2 sk rh mu t) i c))), (5, vi i), (3, vi hn), (2, vi 120), (0, vr 175)]) d_Mo_attempt_618 rfl (by decide) ⟨(by omega), (by omega)⟩ rfl ?_
              refine aw_goto (tgt := 521) d_Mo_attempt_621 (by decide) ?_
              refine aw_sub (lv' := [(6, vi (c + 1)), (5, vi i), (4, vi 1), (3, vi hn), (2, vi 120), (0, vr 175)]) (by simp) ?_
              exact ih_521 _ (by omega) (c + 1) 1 (a_up K3 (205 + (30 + i).toNat) c ((sgR 2 sk rh mu t) i c)) (by omega) (F3.tr (FR.up (p := fun a => a = 252 ∨ 235 ≤ a ∧ a ≤ 242 ∨ 254 ≤ a ∧ a ≤ 261) (by omega)) (fun a x => ⟨x, x⟩)) (t3.tr (FR.up (p := fun a => a = 205 + (30 + i).toNat) rfl) (fun a x => ⟨x, x⟩)) (⟨fun x a b => by by_cases z : x = c; exact (by rw [z, a_up_at]); exact (by rw [a_up_ne (Or.inr z)]; exact r3.1 x a (by omega)), fun x a b => by rw [a_up_ne (Or.inr (by omega))]; exact r3.2 x (by omega) b⟩) (⟨Or.inr rfl, fun z => absurd z (by decide), fun z => by have := z.2 c hc.1 (by omega); omega⟩) rfl
      skip
      exact lp_521 _ 0 an (rowTo K2 252 256 (few (K2 251) (K2 (205 + (7 + i).toNat)))) (by omega) (F2.tr (FR.row (p := fun a => a = 252 ∨ 235 ≤ a ∧ a ≤ 242 ∨ 254 ≤ a ∧ a ≤ 261) (by omega) l1) (fun a x => ⟨x, x⟩)) (FR.rfl') (⟨fun x a b => by omega, fun x a b => by rw [rowTo_ne (by omega)]; exact td i hi.1 (Int.le_refl _) (by omega) x a b⟩) (⟨a2.1, fun z => ⟨z, fun x a b => by omega⟩, fun z => z.1⟩) rfl
  skip
  exact lp_479 _ 0 0 0 K M (by omega) (FR.rfl') (fun m a b => by omega) (fun m a b => hW m a) (fun m a b => by omega) (rfl) (⟨Or.inl rfl, fun _ m a b => by omega, fun _ => rfl⟩) rfl
