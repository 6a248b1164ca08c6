/-! keep and again -/
theorem cpyM_at {s a s' a' : Nat} {μ : Me} {l : Nat} : ∀ i, l < i → ((cpyM s a s' a' μ i).1 (a + 4 * l) 0 = μ.1 (a' + 4 * l) 0 ∧ (cpyM s a s' a' μ i).1 (a + 4 * l) 1 = μ.1 (a' + 4 * l) 1) ∧ (cpyM s a s' a' μ i).1 (a + 4 * l + 1) = cut 36 (μ.1 (a' + 4 * l + 1)) (μ.1 (a + 4 * l + 1)) ∧ (cpyM s a s' a' μ i).1 (a + 4 * l + 2) = cut 36 (μ.1 (a' + 4 * l + 2)) (μ.1 (a + 4 * l + 2)) ∧ (cpyM s a s' a' μ i).1 (a + 4 * l + 3) = cut 36 (μ.1 (a' + 4 * l + 3)) (μ.1 (a + 4 * l + 3))
  | 0, h => absurd h (by omega)
  | i + 1, h => by
    rw [cpyM]
    by_cases e : l = i
    · subst e
      refine ⟨⟨?_, ?_⟩, r3_1, r3_2, r3_3⟩
      · rw [r3_ne (by omega) (by omega) (by omega), uI_off (by decide), uI_at]
      · rw [r3_ne (by omega) (by omega) (by omega), uI_at]
    · have ih := cpyM_at (s := s) (a := a) (s' := s') (a' := a') (μ := μ) (l := l) i (by omega)
      have ee : ∀ c, a + 4 * l ≤ c → c < a + 4 * l + 4 → (r3 (uI (uI (cpyM s a s' a' μ i) (a + 4 * i) 0 (μ.1 (a' + 4 * i) 0)) (a + 4 * i) 1 (μ.1 (a' + 4 * i) 1)) (a + 4 * i) (cut 36 (μ.1 (a' + 4 * i + 1)) (μ.1 (a + 4 * i + 1))) (cut 36 (μ.1 (a' + 4 * i + 2)) (μ.1 (a + 4 * i + 2))) (cut 36 (μ.1 (a' + 4 * i + 3)) (μ.1 (a + 4 * i + 3)))).1 c = (cpyM s a s' a' μ i).1 c := fun c h1 h2 => by
        rw [r3_ne (by omega) (by omega) (by omega), uI_ne (by omega), uI_ne (by omega)]
      rw [ee _ (by omega) (by omega), ee _ (by omega) (by omega), ee _ (by omega) (by omega), ee _ (by omega) (by omega)]
      exact ih
theorem cpyM_L {s a s' a' : Nat} {μ : Me} : ∀ i, (cpyM s a s' a' μ i).2 = μ.2
  | 0 => rfl
  | i + 1 => cpyM_L (s := s) (a := a) (s' := s') (a' := a') (μ := μ) i
theorem schM_L {s a s' a' m : Nat} {μ : Me} : (schM s a s' a' m μ).2 = μ.2 := cpyM_L m
theorem schM_o {s s' m c : Nat} {μ : Me} (hm : m ≤ 4) (hc : c < s ∨ c = s + 1 ∨ s + 23 ≤ c) : (schM s (s + 7) s' (s' + 7) m μ).1 c = μ.1 c := by
  rw [schM, uI_ne (by omega), r3_ne (by omega) (by omega) (by omega), uI_ne (by omega), uI_ne (by omega), rI_ne (by omega), cpyM_ne _ _ _ _ _ _ (by omega) m (by omega)]
theorem SRx.copy {m n D s s' : Nat} {μ : Me} {g w L : Nat → Int32} {z it : Int32} (h : SRx m n D μ.1 s' (s' + 7) g w L z it) : SRx m n D (schM s (s + 7) s' (s' + 7) m μ).1 s (s + 7) g w L z it := by
  have hm := h.m4
  refine h.tr ?_ rfl ⟨?_, h.dg⟩ ?_ (fun q hq => ?_) h.w50 ?_ (fun i hi => ⟨?_, ?_, ?_⟩) (fun _ _ => rfl) rfl (fun l hl => ?_)
  · rw [schM, uI_ne (by omega), r3_ne (by omega) (by omega) (by omega), uI_off (by decide), uI_off (by decide), rI_ne (by omega), cpyM_s _ _ _ _ _ (by omega), pk_us]
  · rw [schM, uI_ne (by omega), r3_ne (by omega) (by omega) (by omega), uI_off (by decide), uI_at]
    exact h.dM
  · rw [schM, uI_ne (by omega), r3_ne (by omega) (by omega) (by omega), uI_at]
    exact h.zz
  · rw [schM, uI_ne (by omega), r3_ne (by omega) (by omega) (by omega), uI_ne (by omega), uI_ne (by omega), rI_eq, cut_in hq]
    exact h.ww q hq
  · rw [schM, uI_at]
  · rw [schM, uI_ne (by omega), show s + 4 = s + 3 + 1 from rfl, r3_1, cut_in hi]
  · rw [schM, uI_ne (by omega), show s + 5 = s + 3 + 2 from rfl, r3_2, cut_in hi]
  · rw [schM, uI_ne (by omega), show s + 6 = s + 3 + 3 from rfl, r3_3, cut_in hi]
  · have ee : ∀ c, s + 7 ≤ c → (schM s (s + 7) s' (s' + 7) m μ).1 c = (cpyM s (s + 7) s' (s' + 7) μ m).1 c := fun c hc => by
      rw [schM, uI_ne (by omega), r3_ne (by omega) (by omega) (by omega), uI_ne (by omega), uI_ne (by omega), rI_ne (by omega)]
    obtain ⟨⟨b0, b1⟩, b2, b3, b4⟩ := cpyM_at (s := s) (a := s + 7) (s' := s') (a' := s' + 7) (μ := μ) (l := l) m hl
    refine (h.hd l hl).tr ?_ ?_ (fun q hq => ⟨?_, ?_, ?_⟩) rfl rfl (fun q _ => ⟨rfl, rfl, rfl⟩)
    · rw [ee _ (by omega)]
      exact b0
    · rw [ee _ (by omega)]
      exact b1
    · rw [ee _ (by omega), b2, cut_in hq]
    · rw [ee _ (by omega), b3, cut_in hq]
    · rw [ee _ (by omega), b4, cut_in hq]
theorem SRx.md {m n D : Nat} {M : Nat → Nat → Int32} {S a : Nat} {g w L g' w' L' : Nat → Int32} {z it z' it' : Int32} (h : SRx m n D M S a g w L z it) (hg : ∀ i, i < 442 → g' i = g i) (hw : ∀ q, q < 3 → w' q = w q) (hL : ∀ k, k < 36 → L' k = L k) (hz : z' = z) (hi : it' = it) : SRx m n D M S a g' w' L' z' it' := by
  have hm := h.m4
  refine h.tr rfl (hg 0 (by decide)) ⟨h.dM, by rw [hg 1 (by decide)]; exact h.dg⟩ (by rw [hz]; exact h.zz) (fun q hq => by rw [hw q hq]; exact h.ww q hq) (by rw [hw 0 (by decide)]; exact h.w50) rfl (fun _ _ => ⟨rfl, rfl, rfl⟩) hL hi (fun l hl => (h.hd l hl).gg (by omega) hg)
theorem mvK_100 {μ : Me} {c M n : Nat} : (mvK μ c M n).1 100 = mvF (μ.1 100) M (μ.1 c) n := by rw [mvK, uI_ne (by decide), rI_eq]
theorem mvK_ne {μ : Me} {c M n c' : Nat} (h : c' ≠ 82) (h2 : c' ≠ 100) : (mvK μ c M n).1 c' = μ.1 c' := by rw [mvK, uI_ne h, rI_ne h2]
theorem mvK_82 {μ : Me} {c M n j : Nat} (h : j ≠ 39) : (mvK μ c M n).1 82 j = μ.1 82 j := by rw [mvK, uI_off h, rI_ne (by decide)]
theorem sg_ne {μ : Me} {c : Nat} (h : c ≠ 82) (h2 : c ≠ 101) : (sgM μ).1 c = μ.1 c := by rw [sgM, uI_ne h2, uI_ne h2, uI_ne h]
theorem sg_82 {μ : Me} {j : Nat} (h : j ≠ 39) : (sgM μ).1 82 j = μ.1 82 j := by rw [sgM, uI_ne (by decide), uI_ne (by decide), uI_off h]
theorem kp_100 {μ : Me} : (kpAll μ).1 100 = mvF (mvF (mvF (mvF (μ.1 100) 0 ((sgM μ).1 101) 2) 2 (μ.1 83) 442) 444 (μ.1 84) 3) 447 (μ.1 89) 36 := by
  rw [kpAll, mvK_100, mvK_100, mvK_100, mvK_100, sg_ne (c := 100) (by decide) (by decide), mvK_ne (c' := 83) (by decide) (by decide), sg_ne (c := 83) (by decide) (by decide), mvK_ne (c' := 84) (by decide) (by decide), mvK_ne (c' := 84) (by decide) (by decide), sg_ne (c := 84) (by decide) (by decide), mvK_ne (c' := 89) (by decide) (by decide), mvK_ne (c' := 89) (by decide) (by decide), mvK_ne (c' := 89) (by decide) (by decide), sg_ne (c := 89) (by decide) (by decide)]
theorem kp_ne {μ : Me} {c : Nat} (h : c ≠ 82) (h2 : c ≠ 100) (h3 : c ≠ 101) : (kpAll μ).1 c = μ.1 c := by
  rw [kpAll, mvK_ne h h2, mvK_ne h h2, mvK_ne h h2, mvK_ne h h2, sg_ne h h3]
theorem kp_82 {μ : Me} {j : Nat} (h : j ≠ 39) : (kpAll μ).1 82 j = μ.1 82 j := by
  rw [kpAll, mvK_82 h, mvK_82 h, mvK_82 h, mvK_82 h, sg_82 h]
theorem kp_0 {μ : Me} : (kpAll μ).1 100 0 = μ.1 82 4 ∧ (kpAll μ).1 100 1 = μ.1 82 18 := by
  constructor
  · rw [kp_100, mv_out (Or.inl (by decide)), mv_out (Or.inl (by decide)), mv_out (Or.inl (by decide))]
    show mvF _ 0 _ 2 (0 + 0) = _
    rw [mv_in (by decide), sgM, uI_off (by decide), uI_at]
  · rw [kp_100, mv_out (Or.inl (by decide)), mv_out (Or.inl (by decide)), mv_out (Or.inl (by decide))]
    show mvF _ 0 _ 2 (0 + 1) = _
    rw [mv_in (by decide), sgM, uI_at]
theorem kp_83 {μ : Me} {i : Nat} (hi : i < 442) : (kpAll μ).1 100 (2 + i) = μ.1 83 i := by
  rw [kp_100, mv_out (Or.inl (by omega)), mv_out (Or.inl (by omega)), mv_in hi]
theorem kp_84 {μ : Me} {i : Nat} (hi : i < 3) : (kpAll μ).1 100 (444 + i) = μ.1 84 i := by
  rw [kp_100, mv_out (Or.inl (by omega)), mv_in hi]
theorem kp_89 {μ : Me} {i : Nat} (hi : i < 36) : (kpAll μ).1 100 (447 + i) = μ.1 89 i := by
  rw [kp_100, mv_in hi]
theorem op_keep {m n D s : Nat} {μ : Me} (hD : D ≤ 108 * s) (h : RRx m n D s μ) : OpI m_S_keep 3 m_M_keep 2 [] μ s := by
  have hm := SRx.m4 h.sc
  have c1 := c_S_keep hm μ h.sc.cls
  generalize eν : uI (schM 24 31 1 8 m μ) 0 2 1 = ν at c1
  have aa : ∀ c, (0 < c ∧ c < 24) ∨ c = 25 ∨ 47 ≤ c → ν.1 c = μ.1 c := fun c hc' => by
    rw [← eν, uI_ne (by omega)]
    exact schM_o (s := 24) (s' := 1) hm (by omega)
  refine opI c1 (c_M_keep ν) rfl (show D ≤ _ by omega) (h.up.setK ⟨fun c h1 h2 => ?_, fun j h1 h2 => ?_, fun i _ => ?_, fun c _ _ => ?_⟩ (Or.inr ⟨?_, ?_, m, n, D, by omega, ?_⟩))
  · unfold scr at h1
    unfold pK at h2
    rw [uI_ne (by omega), kp_ne (by omega) (by omega) (by omega), aa c (by omega)]
  · unfold scj at h1
    rw [uI_off h2, kp_82 (by omega), aa 82 (by omega)]
  · rw [uI_ne (by decide), kp_ne (by decide) (by decide) (by decide), aa 83 (by omega)]
  · show ν.2 c = μ.2 c
    rw [← eν, uI_2, schM_L]
  · rw [uI_ne (by decide), kp_ne (by decide) (by decide) (by decide), ← eν, uI_at]
    decide
  · rw [uI_at]
    decide
  · have e100 : (uI (kpAll ν) 82 37 1).1 100 = (kpAll ν).1 100 := uI_ne (by decide)
    rw [e100]
    have hS : SRx m n D (schM 24 31 1 8 m μ).1 24 31 (μ.1 83) (μ.1 84) (μ.1 89) (μ.1 82 4) (μ.1 82 18) := SRx.copy (s := 24) (s' := 1) h.sc
    refine (hS.mem (M' := (uI (kpAll ν) 82 37 1).1) (fun c hc' => ?_)).md (fun i hi => ?_) (fun q hq => ?_) (fun k hk => ?_) ?_ ?_
    · rw [uI_ne (by omega), kp_ne (by omega) (by omega) (by omega), ← eν, uI_ne (by omega)]
    · rw [kp_83 hi, aa 83 (by omega)]
    · rw [kp_84 hq, aa 84 (by omega)]
    · rw [kp_89 hk, aa 89 (by omega)]
    · rw [kp_0.1, aa 82 (by omega)]
    · rw [kp_0.2, aa 82 (by omega)]
theorem mvA_c {μ : Me} {c M n : Nat} (h : c ≠ 82) : (mvA μ c M n).1 c = cut n (fun i => μ.1 100 (M + i)) (μ.1 c) := by rw [mvA, uI_ne h, rI_eq]
theorem mvA_ne {μ : Me} {c M n c' : Nat} (h : c' ≠ 82) (h2 : c' ≠ c) : (mvA μ c M n).1 c' = μ.1 c' := by rw [mvA, uI_ne h, rI_ne h2]
theorem mvA_82 {μ : Me} {c M n j : Nat} (hc : c ≠ 82) (h : j ≠ 39) : (mvA μ c M n).1 82 j = μ.1 82 j := by rw [mvA, uI_off h, rI_ne (Ne.symm hc)]
theorem ag_ne {μ : Me} {c : Nat} (h : c ≠ 82) (h1 : c ≠ 101) (h2 : c ≠ 83) (h3 : c ≠ 84) (h4 : c ≠ 89) : (agAll μ).1 c = μ.1 c := by
  rw [agAll, mvA_ne h h4, mvA_ne h h3, mvA_ne h h2, mvA_ne h h1, sg_ne h h1]
theorem ag_82 {μ : Me} {j : Nat} (h : j ≠ 39) : (agAll μ).1 82 j = μ.1 82 j := by
  rw [agAll, mvA_82 (by decide) h, mvA_82 (by decide) h, mvA_82 (by decide) h, mvA_82 (by decide) h, sg_82 h]
theorem ag_101 {μ : Me} : (agAll μ).1 101 0 = μ.1 100 0 ∧ (agAll μ).1 101 1 = μ.1 100 1 := by
  rw [agAll, mvA_ne (by decide) (by decide), mvA_ne (by decide) (by decide), mvA_ne (by decide) (by decide), mvA_c (by decide), cut_in (by decide), cut_in (by decide), sg_ne (c := 100) (by decide) (by decide)]
  exact ⟨rfl, rfl⟩
theorem ag_83 {μ : Me} {i : Nat} (hi : i < 442) : (agAll μ).1 83 i = μ.1 100 (2 + i) := by
  rw [agAll, mvA_ne (by decide) (by decide), mvA_ne (by decide) (by decide), mvA_c (by decide), cut_in hi, mvA_ne (c' := 100) (by decide) (by decide), sg_ne (c := 100) (by decide) (by decide)]
theorem ag_84 {μ : Me} {i : Nat} (hi : i < 3) : (agAll μ).1 84 i = μ.1 100 (444 + i) := by
  rw [agAll, mvA_ne (by decide) (by decide), mvA_c (by decide), cut_in hi, mvA_ne (c' := 100) (by decide) (by decide), mvA_ne (c' := 100) (by decide) (by decide), sg_ne (c := 100) (by decide) (by decide)]
theorem ag_89 {μ : Me} {i : Nat} (hi : i < 36) : (agAll μ).1 89 i = μ.1 100 (447 + i) := by
  rw [agAll, mvA_c (by decide), cut_in hi, mvA_ne (c' := 100) (by decide) (by decide), mvA_ne (c' := 100) (by decide) (by decide), mvA_ne (c' := 100) (by decide) (by decide), sg_ne (c := 100) (by decide) (by decide)]
theorem op_again {m n D s : Nat} {μ : Me} (hD : D ≤ 108 * s) (h : RRx m n D s μ) : OpI m_S_again 3 m_M_again 2 [] μ s := by
  rcases h.2.2.1 with ⟨k1, k2⟩ | ⟨k1, k2, km, kn, kD, hkD, hK⟩
  · exact opI (c_S_again_no μ k1) (c_M_again_no μ k2) rfl (show D ≤ _ by omega) h.up
  · have hm := hK.m4
    have c1 := c_S_again hm μ k1 hK.cM
    generalize eν : schM 1 8 24 31 km μ = ν at c1
    have aa : ∀ c, c < 1 ∨ c = 2 ∨ 24 ≤ c → ν.1 c = μ.1 c := fun c hc' => by
      rw [← eν]
      exact schM_o (s := 1) (s' := 24) hm (by omega)
    have am : ∀ c, c ≠ 82 → (agM ν).1 c = (agAll ν).1 c := fun c hc' => by rw [agM, uI_ne hc', uI_ne hc']
    refine opI c1 (c_M_again ν (by rw [aa 82 (by omega)]; exact k2)) ?_ (show kD ≤ _ by omega) (h.up.sch (m' := km) (n' := kn) ⟨fun c h1 h2 => ?_, fun j h1 h2 h3 => ?_, fun c _ => ?_⟩ ?_)
    · rw [ag_83 (by decide), aa 100 (by omega)]
      exact hK.cg
    · unfold scr at h1
      unfold schc at h2
      rw [am c (by omega), ag_ne (by omega) (by omega) (by omega) (by omega) (by omega), aa c (by omega)]
    · unfold scj at h1
      rw [agM, uI_off h3, uI_off h2, ag_82 (by omega), aa 82 (by omega)]
    · show ν.2 c = μ.2 c
      rw [← eν, schM_L]
    · have hS := SRx.copy (s := 1) (s' := 24) hK
      rw [show schM 1 (1 + 7) 24 (24 + 7) km μ = ν from eν] at hS
      refine (hS.mem (M' := (agM ν).1) (fun c hc' => ?_)).md (fun i hi => ?_) (fun q hq => ?_) (fun k hk => ?_) ?_ ?_
      · rw [am c (by omega), ag_ne (by omega) (by omega) (by omega) (by omega) (by omega)]
      · rw [am 83 (by decide), ag_83 hi, aa 100 (by omega)]
      · rw [am 84 (by decide), ag_84 hq, aa 100 (by omega)]
      · rw [am 89 (by decide), ag_89 hk, aa 100 (by omega)]
      · rw [agM, uI_off (by decide), uI_at, ag_101.1, aa 100 (by omega)]
      · rw [agM, uI_at, ag_101.2, aa 100 (by omega)]
