/-! asking, telling, nights, a new learner -/
theorem nD {D s : Nat} (hD : D ≤ 108 * s) (hs : s ≤ 64) : 0 ≤ nI D := nI_pos' (by omega)
theorem op_ask {m n D s : Nat} {μ : Me} (hD : D ≤ 108 * s) (h : RRx m n D s μ) (hs : s ≤ 64) (l p t : Int32) : OpI m_S_ask 5 m_M_ask 7 [.int l, .int p, .int t] μ s := by
  have hm := SRx.m4 h.sc
  have hc := h.sc.cls
  have c1 := c_S_ask hm l p t μ hc
  by_cases hG : (0 ≤ l ∧ l < nI m) ∧ (0 ≤ p ∧ p < 36) ∧ 1 ≤ t ∧ t ≤ 9
  · have hP : askP μ l p t := by unfold askP; rw [hc]; exact hG
    obtain ⟨j, hj, rfl⟩ := lr_yes hm hG.1
    obtain ⟨q, hq, rfl⟩ := pr_yes hG.2.1
    have c1 := Ct.mono (fun r μ' z => z.1 hP) c1
    have e1 : ansS μ (nI j) (nI q) t = fd (μ.1 83) 0 j q t (μ.1 84) := by
      unfold ansS
      rw [lcl_n (by omega), cl36 hq (by decide)]
      exact h.sc.find hj hq t
    rw [lcl_n (by omega), cl36 hq (by decide), e1, show μ.1 1 3 = nI D from SRx.dM h.sc] at c1
    generalize eQ : fd (μ.1 83) 0 j q t (μ.1 84) = Q at c1
    have hS := SRx.ask h.sc hj hq (nD hD hs) t (μ.1 84)
    rw [eQ] at hS
    have aa : ∀ c, c < 8 ∨ (24 ≤ c ∧ c ≠ 57) → (keepM (ansM μ Q) (8 + 4 * j) q (nI D) Q).1 c = μ.1 c := fun c hc' => by rw [keepM, r3_ne (by omega) (by omega) (by omega), ansM_ne (by omega)]
    have c2 := c_M_ask hm hj hq t hG.2.2 (keepM (ansM μ Q) (8 + 4 * j) q (nI D) Q) (by rw [aa 83 (by omega)]; exact h.sc.ref) (by rw [aa 82 (by omega)]; exact h.at0) (by rw [aa 83 (by omega)]; exact (SRx.hd h.sc j hj).2.2.1) (by rw [aa 83 (by omega)]; exact h.sc.ok.2.2.le9 hj hq)
    rw [aa 83 (by omega), aa 84 (by omega), eQ] at c2
    refine opI c1 c2 rfl (show D ≤ _ by omega) (h.up.sch ⟨fun c h1 h2 => ?_, fun j h1 h2 h3 => ?_, fun _ _ => rfl⟩ (SC.of (SRx.mem hS (fun c hc' => ?_)) rI_eq ?_ ?_ ?_ ?_))
    · unfold scr at h1
      unfold schc at h2
      rw [rI_ne (by omega), saM_ne (by omega), aa c (by omega)]
    · unfold scj at h1
      rw [rI_ne (by decide), saM_o (by omega) (by omega) (by omega), aa 82 (by omega)]
    · rw [rI_ne (by omega), saM_ne (by omega)]
    · rw [rI_ne (by decide), saM_ne (by decide), aa 84 (by omega)]
    · rw [rI_ne (by decide), saM_ne (by decide), aa 89 (by omega)]
    · rw [rI_ne (by decide), saM_o (by decide) (by decide) (by decide), aa 82 (by omega)]
    · rw [rI_ne (by decide), saM_o (by decide) (by decide) (by decide), aa 82 (by omega)]
  · have hP : ¬ askP μ l p t := by unfold askP; rw [hc]; exact hG
    exact opI (Ct.mono (fun r μ' z => z.2 hP) c1) (c_M_ask_no hm l p t μ h.sc.ref hG) rfl (show D ≤ _ by omega) h.up
theorem op_tell {m n D s : Nat} {μ : Me} (hD : D ≤ 108 * s) (h : RRx m n D s μ) (l p : Int32) : OpI m_S_tell 3 m_M_tell 3 [.int l, .int p] μ s := by
  have hm := SRx.m4 h.sc
  have hc := h.sc.cls
  have c1 := c_S_tell hm l p μ hc
  by_cases hG : (0 ≤ l ∧ l < nI m) ∧ 0 ≤ p ∧ p < 36
  · have hP : tellP μ l p := by unfold tellP; rw [hc]; exact hG
    obtain ⟨j, hj, rfl⟩ := lr_yes hm hG.1
    obtain ⟨q, hq, rfl⟩ := pr_yes hG.2
    have c1 := Ct.mono (fun r μ' z => z.1 hP) c1
    rw [lcl_n (by omega), cl36 hq (by decide)] at c1
    have hS := SRx.told h.sc hj hq
    have aa : ∀ c, c < 8 ∨ 24 ≤ c → (uI μ (8 + 4 * j + 1) q (toldS (μ.1 (8 + 4 * j + 1) q))).1 c = μ.1 c := fun c hc' => uI_ne (by omega)
    have c2 := c_M_tell hm hj hq (uI μ (8 + 4 * j + 1) q (toldS (μ.1 (8 + 4 * j + 1) q))) (by rw [aa 83 (by omega)]; exact h.sc.ref) (by rw [aa 82 (by omega)]; exact h.at0) (by rw [aa 83 (by omega)]; exact (SRx.hd h.sc j hj).2.2.1)
    rw [aa 83 (by omega)] at c2
    refine opI c1 c2 ?_ (show D ≤ _ by omega) (h.up.sch ⟨fun c h1 h2 => ?_, fun j h1 h2 h3 => ?_, fun _ _ => rfl⟩ (SC.of (SRx.mem hS (fun c hc' => uI_ne (by omega))) (by rw [uI_eq, aa 83 (by omega)]) ?_ ?_ ?_ ?_))
    · rw [((SRx.hd h.sc j hj).2.2.2 q hq).1.1]
    · unfold scr at h1
      unfold schc at h2
      rw [uI_ne (by omega), aa c (by omega)]
    · rw [uI_ne (by decide), aa 82 (by omega)]
    · rw [uI_ne (by decide), aa 84 (by omega)]
    · rw [uI_ne (by decide), aa 89 (by omega)]
    · rw [uI_ne (by decide), aa 82 (by omega)]
    · rw [uI_ne (by decide), aa 82 (by omega)]
  · have hP : ¬ tellP μ l p := by unfold tellP; rw [hc]; exact hG
    exact opI (Ct.mono (fun r μ' z => z.2 hP) c1) (c_M_tell_no hm l p μ h.sc.ref hG) rfl (show D ≤ _ by omega) h.up
theorem op_nights {m n D s : Nat} {μ : Me} (hD : D ≤ 108 * s) (h : RRx m n D s μ) (k : Int32) : OpI m_S_nights 3 m_M_nights 3 [.int k] μ s := by
  have hm := SRx.m4 h.sc
  have hc := h.sc.cls
  by_cases hG : 0 ≤ k ∧ k ≤ 30
  · obtain ⟨k, hk, rfl⟩ := fNl (N := 30) (by decide) hG
    have hS := SRx.rest h.sc k
    have aa : ∀ c, c ≠ 1 → c < 8 ∨ 24 ≤ c → (uI (restM (μ.1 3 0) k μ m) 1 3 (μ.1 1 3 + nI k)).1 c = μ.1 c := fun c h1 hc' => by rw [uI_ne h1, restM_ne _ _ _ _ _ (fun _ _ => by omega)]
    have c2 := c_M_nights hm hk (uI (restM (μ.1 3 0) k μ m) 1 3 (μ.1 1 3 + nI k)) (by rw [aa 82 (by decide) (by omega)]; exact h.at0) (by rw [aa 83 (by decide) (by omega)]; exact h.sc.ref) (by rw [aa 83 (by decide) (by omega)]; exact h.sc.ok.2.2)
    rw [aa 83 (by decide) (by omega), aa 84 (by decide) (by omega)] at c2
    have er : ∀ i, (restM (μ.1 3 0) k μ i).2 = μ.2 := fun i => by
      induction i with
      | zero => rfl
      | succ i ih => exact ih
    refine opI (c_S_nights hm k hk μ hc h.sc.rt.ne) c2 ?_ (show D + k ≤ _ by omega) (h.up.sch ⟨fun c h1 h2 => ?_, fun j h1 h2 h3 => ?_, fun c _ => by rw [rI_2, uI_2, er m]⟩ (SC.of (SRx.mem hS (fun c hc' => rI_ne (by omega))) rI_eq ?_ ?_ ?_ ?_))
    · rw [show μ.1 83 1 = μ.1 1 3 from (SRx.dg h.sc).trans (SRx.dM h.sc).symm]
    · unfold scr at h1
      unfold schc at h2
      rw [rI_ne (by omega), aa c (by omega) (by omega)]
    · rw [rI_ne (by decide), aa 82 (by decide) (by omega)]
    · rw [rI_ne (by decide), aa 84 (by decide) (by omega)]
    · rw [rI_ne (by decide), aa 89 (by decide) (by omega)]
    · rw [rI_ne (by decide), aa 82 (by decide) (by omega)]
    · rw [rI_ne (by decide), aa 82 (by decide) (by omega)]
  · exact opI (c_S_nights_bad hG μ) (c_M_nights_bad hG μ) rfl (show D ≤ _ by omega) h.up
theorem lnR_lo {g : Nat → Int32} {m i : Nat} {k a : Int32} (hi : i < 2 + 110 * m) : lnR g m k a 36 i = g i := by
  rw [lnR, ls3_out (by omega), lnG, pk_un (by omega), pk_un (by omega)]
theorem first_r : ∀ p : Fin 36, 0 ≤ firstS p.val ∧ firstS p.val ≤ 100 := by decide +kernel
theorem Hd.new {M : Nat → Nat → Int32} {c m : Nat} {g : Nat → Int32} {k a x : Int32} (hk : 0 ≤ k ∧ k < 6) (ha : 0 ≤ a ∧ a ≤ 40) (h0 : M c 0 = k) (h1 : M c 1 = a) (hq : ∀ q, q < 36 → M (c + 1) q = firstS q ∧ M (c + 2) q = 0 ∧ M (c + 3) q = -9) : Hd M c (upd (lnR g m k a 36) 0 x) 0 m := by
  have ek : kM (upd (lnR g m k a 36) 0 x) 0 m = k := by
    rw [kM, pk_un (by omega), lnR, ls3_out (by omega), lnG, show 0 + 2 + 110 * m = 2 + 110 * m by omega, pk_un (by omega), pk_us]
  have ea : aM (upd (lnR g m k a 36) 0 x) 0 m = a := by
    rw [aM, pk_un (by omega), lnR, ls3_out (by omega), lnG, show 0 + 2 + 110 * m + 1 = 2 + 110 * m + 1 by omega, pk_us]
  have ef : ∀ q, q < 36 → fM (upd (lnR g m k a 36) 0 x) 0 m q = firstS q := fun q hq' => by
    rw [fM, pk_un (by omega)]
    have := ls3_f (g := lnG g m k a) (A := 0) (l := m) (f := cut 36 firstS (fM (lnG g m k a) 0 m)) (r := cut 36 (fun _ => 0) (rM (lnG g m k a) 0 m)) (x := cut 36 (fun _ => -9) (lM (lnG g m k a) 0 m)) hq'
    rw [cut_in hq'] at this
    exact this
  have er : ∀ q, q < 36 → rM (upd (lnR g m k a 36) 0 x) 0 m q = 0 := fun q hq' => by
    rw [rM, pk_un (by omega)]
    have := ls3_r (g := lnG g m k a) (A := 0) (l := m) (f := cut 36 firstS (fM (lnG g m k a) 0 m)) (r := cut 36 (fun _ => 0) (rM (lnG g m k a) 0 m)) (x := cut 36 (fun _ => -9) (lM (lnG g m k a) 0 m)) hq'
    rw [cut_in hq'] at this
    exact this
  have el : ∀ q, q < 36 → lM (upd (lnR g m k a 36) 0 x) 0 m q = -9 := fun q hq' => by
    rw [lM, pk_un (by omega)]
    have := ls3_l (g := lnG g m k a) (A := 0) (l := m) (f := cut 36 firstS (fM (lnG g m k a) 0 m)) (r := cut 36 (fun _ => 0) (rM (lnG g m k a) 0 m)) (x := cut 36 (fun _ => -9) (lM (lnG g m k a) 0 m)) hq'
    rw [cut_in hq'] at this
    exact this
  obtain ⟨k', hk', e'⟩ := fN (N := 6) (by decide) hk
  refine ⟨⟨by rw [ek, h0], by rw [ea, h1]⟩, ⟨k', hk', by rw [ek, e']⟩, ⟨by rw [ea]; exact ha, fun q hq' => by rw [ef q hq']; exact first_r ⟨q, hq'⟩⟩, fun q hq' => ?_⟩
  obtain ⟨a1, a2, a3⟩ := hq q hq'
  rw [ef q hq', er q hq', el q hq']
  exact ⟨⟨a1, a2, a3⟩, ⟨0, by omega, rfl⟩, Or.inl rfl⟩
theorem op_learner {m n D s : Nat} {μ : Me} (hD : D ≤ 108 * s) (h : RRx m n D s μ) (k a : Int32) : OpI m_S_learner 3 m_M_learner 2 [.int k, .int a] μ s := by
  have hm := SRx.m4 h.sc
  have hc := h.sc.cls
  by_cases hG : (0 ≤ k ∧ k < 6) ∧ 0 ≤ a ∧ a ≤ 40
  · by_cases h4 : m = 4
    · subst h4
      exact opI (c_S_learner_full hG μ hc) (c_M_learner_full k a μ hG h.sc.ref) rfl (show D ≤ _ by omega) h.up
    · have hm4 : m < 4 := by omega
      have c1 := c_S_learner hG hm4 μ hc
      generalize eν : uI (r3 (uI (uI μ (8 + 4 * m) 0 k) (8 + 4 * m) 1 a) (8 + 4 * m) (cut 36 firstS (μ.1 (8 + 4 * m + 1))) (cut 36 (fun _ => 0) (μ.1 (8 + 4 * m + 2))) (cut 36 (fun _ => -9) (μ.1 (8 + 4 * m + 3)))) 1 1 (nI (m + 1)) = ν at c1
      have aa : ∀ c, c ≠ 1 → c < 8 + 4 * m ∨ 8 + 4 * m + 4 ≤ c → ν.1 c = μ.1 c := fun c h1 hc' => by
        rw [← eν, uI_ne h1, r3_ne (by omega) (by omega) (by omega), uI_ne (by omega), uI_ne (by omega)]
      have a1 : ∀ j, j ≠ 1 → ν.1 1 j = μ.1 1 j := fun j hj => by
        rw [← eν, uI_off hj, r3_ne (by omega) (by omega) (by omega), uI_ne (by omega), uI_ne (by omega)]
      have c2 := c_M_learner k a ν hG hm4 (by rw [aa 83 (by decide) (by omega)]; exact h.sc.ref) (by rw [aa 82 (by decide) (by omega)]; exact h.at0)
      rw [aa 83 (by decide) (by omega)] at c2
      refine opI c1 c2 rfl (show D ≤ _ by omega) (h.up.sch (m' := m + 1) (n' := n) ⟨fun c h1 h2 => ?_, fun j h1 h2 h3 => ?_, fun c _ => by rw [rI_2, ← eν]; rfl⟩ (SC.of (SRx.mem (M := ν.1) (g := upd (lnR (μ.1 83) m k a 36) 0 (nI (m + 1))) (w := μ.1 84) (L := μ.1 89) (z := μ.1 82 4) (it := μ.1 82 18) ?_ (fun c hc' => rI_ne (by omega))) rI_eq ?_ ?_ ?_ ?_))
      · unfold scr at h1
        unfold schc at h2
        rw [rI_ne (by omega), aa c (by omega) (by omega)]
      · rw [rI_ne (by decide), aa 82 (by decide) (by omega)]
      · refine ⟨⟨by omega, SRx.n12 h.sc⟩, ⟨by rw [← eν, uI_at], pk_us⟩, ⟨by rw [a1 3 (by decide)]; exact SRx.dM h.sc, ?_⟩, by rw [a1 4 (by decide)]; exact SRx.zz h.sc, ⟨fun q hq => by rw [aa (1 + 2) (by decide) (by omega)]; exact SRx.ww h.sc q hq, SRx.w50 h.sc⟩, ⟨by rw [aa (1 + 3) (by decide) (by omega)]; exact SRx.ln h.sc, SRx.im h.sc, fun i hi => ?_⟩, fun l hl => ?_⟩
        · rw [pk_un (by decide), lnR_lo (by omega)]
          exact SRx.dg h.sc
        · rw [aa (1 + 4) (by decide) (by omega), aa (1 + 5) (by decide) (by omega), aa (1 + 6) (by decide) (by omega)]
          exact SRx.ls h.sc i hi
        · by_cases el : l = m
          · subst el
            refine Hd.new hG.1 hG.2 ?_ ?_ (fun q hq => ⟨?_, ?_, ?_⟩)
            · rw [← eν, uI_ne (by omega), r3_ne (by omega) (by omega) (by omega), uI_off (by decide), uI_at]
            · rw [← eν, uI_ne (by omega), r3_ne (by omega) (by omega) (by omega), uI_at]
            · rw [← eν, uI_ne (by omega), r3_1, cut_in hq]
            · rw [← eν, uI_ne (by omega), r3_2, cut_in hq]
            · rw [← eν, uI_ne (by omega), r3_3, cut_in hq]
          · refine (SRx.hd h.sc l (by omega)).tr ?_ ?_ (fun q hq => ⟨?_, ?_, ?_⟩) ?_ ?_ (fun q hq => ⟨?_, ?_, ?_⟩)
            · rw [aa _ (by omega) (by omega)]
            · rw [aa _ (by omega) (by omega)]
            · rw [aa _ (by omega) (by omega)]
            · rw [aa _ (by omega) (by omega)]
            · rw [aa _ (by omega) (by omega)]
            · rw [kM, pk_un (by omega), lnR_lo (by omega)]; rfl
            · rw [aM, pk_un (by omega), lnR_lo (by omega)]; rfl
            · rw [fM, pk_un (by omega), lnR_lo (by omega)]; rfl
            · rw [rM, pk_un (by omega), lnR_lo (by omega)]; rfl
            · rw [lM, pk_un (by omega), lnR_lo (by omega)]; rfl
      · rw [rI_ne (by decide), aa 84 (by decide) (by omega)]
      · rw [rI_ne (by decide), aa 89 (by decide) (by omega)]
      · rw [rI_ne (by decide), aa 82 (by decide) (by omega)]
      · rw [rI_ne (by decide), aa 82 (by decide) (by omega)]
  · exact opI (c_S_learner_bad hG μ) (c_M_learner_bad (m := 0) k a μ hG) rfl (show D ≤ _ by omega) h.up
theorem cl_r (v : Int32) : 0 ≤ clS v ∧ clS v ≤ 100 := by
  rw [← kp_cl]
  unfold kpS
  by_cases h0 : v < 0
  · rw [if_pos h0]; decide
  · rw [if_neg h0]
    by_cases h1 : 100 < v
    · rw [if_pos h1]; decide
    · rw [if_neg h1]
      exact ⟨Int32.not_lt.mp h0, Int32.not_lt.mp h1⟩
theorem frF_r {g : Nat → Int64} {i p : Nat} {f : Nat → Int32} (hf : ∀ q, q < 36 → 0 ≤ f q ∧ f q ≤ 100) : ∀ k, ∀ q, q < 36 → 0 ≤ frF g i p f k q ∧ frF g i p f k q ≤ 100
  | 0 => hf
  | k + 1 => by
    rw [frF]
    exact upd_rg (frF_r hf k) (cl_r _)
theorem frF_congr {g g' : Nat → Int64} {i p : Nat} {f f' : Nat → Int32} (hf : ∀ q, q < 36 → f q = f' q) : ∀ k, (∀ x, x < k → g (i + x) = g' (i + x)) → ∀ q, q < 36 → frF g i p f k q = frF g' i p f' k q
  | 0, _ => hf
  | k + 1, hg => fun q hq => by
    rw [frF, frF, hg k (by omega)]
    exact upd_cg (frF_congr hf k (fun x hx => hg x (by omega)) q hq)
theorem op_firms {m n D s : Nat} {μ : Me} (hD : D ≤ 108 * s) (h : RRx m n D s μ) (sh i l p c : Int32) : OpI m_S_firms 1 m_M_firms 2 [.int sh, .int i, .int l, .int p, .int c] μ s := by
  have hm := SRx.m4 h.sc
  have hc := h.sc.cls
  by_cases hG : (0 ≤ sh ∧ sh < 4) ∧ (0 ≤ l ∧ l < nI m) ∧ (0 ≤ p ∧ p < 36) ∧ 0 ≤ c ∧ c ≤ 36 - p
  · obtain ⟨a, ha, rfl⟩ := f4 hG.1
    obtain ⟨j, hj, rfl⟩ := lr_yes hm hG.2.1
    obtain ⟨q, hq, rfl⟩ := pr_yes hG.2.2.1
    obtain ⟨b, hb, rfl⟩ := fNl (x := c) (N := 36 - q) (by omega) (by have := hG.2.2.2; rw [show (36 : Int32) = nI 36 from rfl, pk_sub (by omega)] at this; exact this)
    obtain ⟨e1, e2, ln, hl, ⟨e3, e4⟩, hx⟩ := h.2.2.2.2.2.1 a ha
    have e2' : μ.1 93 a = -1 ∨ 0 ≤ μ.1 93 a := e2.imp_right (fun z => z.1)
    have c1 := c_S_firms hm ha hj hq (show q + b ≤ 36 by omega) hl i μ hc e3
    by_cases h1 : μ.1 93 a = -1
    · exact opI (Ct.mono (fun r μ' z => z.1 (by rw [e1]; exact h1)) c1) (c_M_firms_none hm ha hj hq (by omega) i μ h.sc.ref h1) rfl (show D ≤ _ by omega) h.up
    · by_cases h2 : μ.1 93 a = 0
      · have h1' : ¬ μ.1 (70 + 2 * a) 0 = -1 := by rw [e1]; exact h1
        have h2' : μ.1 (70 + 2 * a) 0 = 0 := by rw [e1]; exact h2
        by_cases hk : ∃ k, i = nI k ∧ k + b ≤ ln
        · obtain ⟨k, rfl, hk⟩ := hk
          have c1 := Ct.mono (fun r μ' z => (z.2.2 h1' h2').1 k rfl hk) c1
          have H : Hd μ.1 (8 + 4 * j) (μ.1 83) 0 j := SRx.hd h.sc j hj
          have aa : ∀ c, c < 8 ∨ 24 ≤ c → (rI μ (8 + 4 * j + 1) (frF (μ.2 (70 + 2 * a + 1)) k q (μ.1 (8 + 4 * j + 1)) b)).1 c = μ.1 c := fun c hc' => rI_ne (by omega)
          have c2 := c_M_firms hm ha hj hq (show q + b ≤ 36 by omega) hl hk (rI μ (8 + 4 * j + 1) (frF (μ.2 (70 + 2 * a + 1)) k q (μ.1 (8 + 4 * j + 1)) b)) (by rw [aa 83 (by omega)]; exact h.sc.ref) (by rw [aa 82 (by omega)]; exact h.at0) (by rw [aa 93 (by omega)]; exact h2) (by rw [aa 94 (by omega)]; exact e4)
          rw [aa 83 (by omega)] at c2
          refine opI c1 c2 rfl (show D ≤ _ by omega) (h.up.sch ⟨fun c h1 h2 => ?_, fun j h1 h2 h3 => ?_, fun c _ => rfl⟩ (SC.of (SRx.mem (SRx.setL (M' := (rI μ (8 + 4 * j + 1) (frF (μ.2 (70 + 2 * a + 1)) k q (μ.1 (8 + 4 * j + 1)) b)).1) h.sc hj (fun c _ h1 _ _ => rI_ne h1) (by decide) (fun x hx' => ⟨?_, ?_, ?_⟩) (frF_r H.2.2.1.2 b) (fun x hx' => (H.2.2.2 x hx').2.1) (fun x hx' => (H.2.2.2 x hx').2.2)) (fun c hc' => rI_ne (by omega))) rI_eq ?_ ?_ ?_ ?_))
          · unfold scr at h1
            unfold schc at h2
            rw [rI_ne (by omega), aa c (by omega)]
          · rw [rI_ne (by decide), aa 82 (by omega)]
          · rw [rI_eq]
            exact frF_congr (fun y hy => (H.2.2.2 y hy).1.1) b (fun y hy => hx (k + y) (by omega)) x hx'
          · rw [rI_ne (by omega)]
            exact (H.2.2.2 x hx').1.2.1
          · rw [rI_ne (by omega)]
            exact (H.2.2.2 x hx').1.2.2
          · rw [rI_ne (by decide), aa 84 (by omega)]
          · rw [rI_ne (by decide), aa 89 (by omega)]
          · rw [rI_ne (by decide), aa 82 (by omega)]
          · rw [rI_ne (by decide), aa 82 (by omega)]
        · have ho : ∀ k, i = nI k → k < 2 ^ 31 → ln < k + b := fun k e _ => Nat.lt_of_not_le (fun z => hk ⟨k, e, z⟩)
          exact opI (Ct.mono (fun r μ' z => (z.2.2 h1' h2').2 ho) c1) (c_M_firms_out hm ha hj hq (by omega) hl i μ h.sc.ref h2 e4 ho) rfl (show D ≤ _ by omega) h.up
      · exact opI (Ct.mono (fun r μ' z => z.2.1 (by rw [e1]; exact h1) (by rw [e1]; exact h2)) c1) (c_M_firms_other hm ha hj hq (by omega) i μ h.sc.ref e2' h1 h2) rfl (show D ≤ _ by omega) h.up
  · exact opI (c_S_firms_bad hm sh i l p c μ hc hG) (c_M_firms_bad hm sh i l p c μ h.sc.ref hG) rfl (show D ≤ _ by omega) h.up
