/-! calls that change a learner, a law, the day, z -/
theorem SC.re {m n D D' : Nat} {μ μ' : Me} (h : SC m n D μ) (h1 : μ'.1 1 1 = μ.1 1 1) (hd : μ'.1 1 3 = nI D' ∧ μ'.1 83 1 = nI D') (hz : μ'.1 1 4 = μ'.1 82 4) (hw : ∀ q, q < 3 → μ'.1 3 q = μ'.1 84 q) (hw50 : 0 ≤ μ'.1 84 0 ∧ μ'.1 84 0 ≤ 50) (hls : ∀ c, 4 ≤ c ∧ c ≤ 7 → μ'.1 c = μ.1 c) (h89 : μ'.1 89 = μ.1 89) (h18 : μ'.1 82 18 = μ.1 82 18) (hg0 : μ'.1 83 0 = μ.1 83 0) (h5 : ∀ l, l < m → Hd μ'.1 (8 + 4 * l) (μ'.1 83) 0 l) : SC m n D' μ' :=
  SRx.tr h h1 hg0 hd hz hw hw50 (by rw [hls (1 + 3) (by omega)]) (fun i _ => ⟨by rw [hls (1 + 4) (by omega)], by rw [hls (1 + 5) (by omega)], by rw [hls (1 + 6) (by omega)]⟩) (fun k _ => by rw [h89]) h18 h5
theorem SC.zset {m n D : Nat} {μ μ' : Me} (h : SC m n D μ) (h1 : μ'.1 1 1 = μ.1 1 1) (h3 : μ'.1 1 3 = μ.1 1 3) (hz : μ'.1 1 4 = μ'.1 82 4) (hc : ∀ c, 3 ≤ c ∧ c < 24 → μ'.1 c = μ.1 c) (h83 : μ'.1 83 = μ.1 83) (h84 : μ'.1 84 = μ.1 84) (h89 : μ'.1 89 = μ.1 89) (h18 : μ'.1 82 18 = μ.1 82 18) : SC m n D μ' := by
  have hm := SRx.m4 h
  refine h.re h1 ⟨by rw [h3]; exact SRx.dM h, by rw [h83]; exact SRx.dg h⟩ hz (fun q hq => by rw [hc 3 (by omega), h84]; exact SRx.ww h q hq) (by rw [h84]; exact SRx.w50 h) (fun c hc' => hc c (by omega)) h89 h18 (by rw [h83]) (fun l hl => ?_)
  rw [h83]
  exact (SRx.hd h l hl).fr (hc _ (by omega)) (hc _ (by omega)) (hc _ (by omega)) (hc _ (by omega))
theorem op_seed {m n D s : Nat} {μ : Me} (hD : D ≤ 108 * s) (h : RRx m n D s μ) (v : Int32) : OpI m_S_seed 0 m_M_seed 0 [.int v] μ s := by
  refine opI (c_S_seed v μ) (c_M_seed v (uI μ 1 4 v)) ?_ (show D ≤ _ by omega) (h.up.sch (μ' := uI (uI μ 1 4 v) 82 4 v) ⟨fun c h1 h2 => ?_, fun j h1 h2 h3 => ?_, fun _ _ => rfl⟩ (h.sc.zset ?_ ?_ ?_ ?_ ?_ ?_ ?_ ?_))
  · rw [uI_ne (by decide)]
    exact (SRx.zz h.sc).symm
  · unfold scr at h1
    unfold schc at h2
    rw [uI_ne (by omega), uI_ne (by omega)]
  · rw [uI_off h2, uI_ne (by decide)]
  · rw [uI_ne (by decide), uI_off (by decide)]
  · rw [uI_ne (by decide), uI_off (by decide)]
  · rw [uI_ne (by decide), uI_at, uI_at]
  · intro c hc
    rw [uI_ne (by omega), uI_ne (by omega)]
  · rw [uI_ne (by decide), uI_ne (by decide)]
  · rw [uI_ne (by decide), uI_ne (by decide)]
  · rw [uI_ne (by decide), uI_ne (by decide)]
  · rw [uI_off (by decide), uI_ne (by decide)]
theorem op_draw {m n D s : Nat} {μ : Me} (hD : D ≤ 108 * s) (h : RRx m n D s μ) (l t : Int32) : OpI m_S_draw 6 m_M_draw 7 [.int l, .int t] μ s := by
  have hm := SRx.m4 h.sc
  have hc := h.sc.cls
  by_cases hG : (0 ≤ l ∧ l < nI m) ∧ 1 ≤ t ∧ t ≤ 9
  · obtain ⟨j, hj, rfl⟩ := lr_yes hm hG.1
    have e1 : mkn (μ.1 83) t (μ.1 84) j = knS μ (8 + 4 * j) t := h.sc.kn hj t
    have ez : μ.1 1 4 = μ.1 82 4 := SRx.zz h.sc
    have h' : RRx m n D (s + 1) (knA μ (8 + 4 * j) t) := h.up.same Sme.ans
    have c1 := c_S_draw hm hj t hG.2 μ hc
    by_cases hb : bitS (unk (knS μ (8 + 4 * j) t)) = 0
    · rw [if_pos hb, if_pos hb] at c1
      have c2 := c_M_draw hm hj t hG.2 (knA μ (8 + 4 * j) t) h'.sc.ref h'.at0 ((SRx.hd h'.sc j hj).2.2.1)
      rw [knA_1 (by decide), knA_1 (by decide), e1, if_pos hb, if_pos hb] at c2
      exact opI c1 c2 rfl (show D ≤ _ by omega) h'
    · rw [if_neg hb, if_neg hb] at c1
      have a83 : (uI (knA μ (8 + 4 * j) t) 1 4 (nextZ (μ.1 1 4))).1 83 = μ.1 83 := by rw [uI_ne (by decide), knA_1 (by decide)]
      have a84 : (uI (knA μ (8 + 4 * j) t) 1 4 (nextZ (μ.1 1 4))).1 84 = μ.1 84 := by rw [uI_ne (by decide), knA_1 (by decide)]
      have a82 : (uI (knA μ (8 + 4 * j) t) 1 4 (nextZ (μ.1 1 4))).1 82 = μ.1 82 := by rw [uI_ne (by decide), knA_1 (by decide)]
      have c2 := c_M_draw hm hj t hG.2 (uI (knA μ (8 + 4 * j) t) 1 4 (nextZ (μ.1 1 4))) (by rw [a83]; exact h.sc.ref) (by rw [a82]; exact h.at0) (by rw [a83]; exact (SRx.hd h.sc j hj).2.2.1)
      rw [a83, a84, a82, e1, if_neg hb, if_neg hb] at c2
      refine opI c1 c2 (by rw [ez]) (show D ≤ _ by omega) (h.up.sch (μ' := uI (uI (knA μ (8 + 4 * j) t) 1 4 (nextZ (μ.1 1 4))) 82 4 (nextZ (μ.1 82 4))) ⟨fun c h1 h2 => ?_, fun j h1 h2 h3 => ?_, fun _ _ => rfl⟩ (h.sc.zset ?_ ?_ ?_ ?_ ?_ ?_ ?_ ?_))
      · unfold scr at h1
        unfold schc at h2
        rw [uI_ne (by omega), uI_ne (by omega), knA_1 (by omega)]
      · rw [uI_off h2, a82]
      · rw [uI_ne (by decide), uI_off (by decide), knA_1 (by decide)]
      · rw [uI_ne (by decide), uI_off (by decide), knA_1 (by decide)]
      · rw [uI_ne (by decide), uI_at, uI_at, ez]
      · intro c hc'
        rw [uI_ne (by omega), uI_ne (by omega), knA_1 (by omega)]
      · rw [uI_ne (by decide), a83]
      · rw [uI_ne (by decide), a84]
      · rw [uI_ne (by decide), uI_ne (by decide), knA_1 (by decide)]
      · rw [uI_off (by decide), a82]
  · exact opI (c_S_draw_no l t μ hc hm hG) (c_M_draw_no hm l t μ h.sc.ref hG) rfl (show D ≤ _ by omega) h.up
theorem op_set {m n D s : Nat} {μ : Me} (hD : D ≤ 108 * s) (h : RRx m n D s μ) (w v : Int32) : OpI m_S_set 1 m_M_set 1 [.int w, .int v] μ s := by
  have hm := SRx.m4 h.sc
  by_cases hG : (0 ≤ w ∧ w < 3) ∧ 0 ≤ v ∧ v ≤ lmS w.toNatClampNeg
  · obtain ⟨q, hq, rfl⟩ := fN (N := 3) (by decide) hG.1
    have hv : 0 ≤ v ∧ v ≤ lmS q := by
      have := hG.2
      rw [nI_clamp (by omega)] at this
      exact this
    refine opI (c_S_set q hq v hv μ) (c_M_set q hq v hv (uI μ 3 q v) (fun x hx => by rw [uI_ne (by decide)]; exact h.mo x hx)) ?_ (show D ≤ _ by omega) (h.up.sch (μ' := uI (uI μ 3 q v) 84 q v) ⟨fun c h1 h2 => ?_, fun j h1 h2 h3 => ?_, fun _ _ => rfl⟩ (h.sc.re (D' := D) ?_ ⟨?_, ?_⟩ ?_ ?_ ?_ ?_ ?_ ?_ ?_ ?_))
    · rw [uI_ne (by decide)]
      exact (SRx.ww h.sc q hq).symm
    · unfold scr at h1
      unfold schc at h2
      rw [uI_ne (by omega), uI_ne (by omega)]
    · rw [uI_ne (by decide), uI_ne (by decide)]
    · rw [uI_ne (by decide), uI_ne (by decide)]
    · rw [uI_ne (by decide), uI_ne (by decide)]
      exact SRx.dM h.sc
    · rw [uI_ne (by decide), uI_ne (by decide)]
      exact SRx.dg h.sc
    · rw [uI_ne (by decide), uI_ne (by decide), uI_ne (by decide), uI_ne (by decide)]
      exact SRx.zz h.sc
    · intro x hx
      rw [uI_ne (by decide), uI_eq, uI_eq, uI_ne (by decide)]
      exact upd_cg (SRx.ww h.sc x hx)
    · rw [uI_eq, uI_ne (by decide)]
      by_cases e : 0 = q
      · subst e
        rw [pk_us]
        exact hv
      · rw [pk_un e]
        exact SRx.w50 h.sc
    · intro c hc'
      rw [uI_ne (by omega), uI_ne (by omega)]
    · rw [uI_ne (by decide), uI_ne (by decide)]
    · rw [uI_ne (by decide), uI_ne (by decide)]
    · rw [uI_ne (by decide), uI_ne (by decide)]
    · intro l hl
      rw [uI_ne (c' := 83) (by decide), uI_ne (c' := 83) (by decide)]
      refine (SRx.hd h.sc l hl).fr ?_ ?_ ?_ ?_
      · rw [uI_ne (by omega), uI_ne (by omega)]
      · rw [uI_ne (by omega), uI_ne (by omega)]
      · rw [uI_ne (by omega), uI_ne (by omega)]
      · rw [uI_ne (by omega), uI_ne (by omega)]
  · exact opI (c_S_set_no w v hG μ) (c_M_set_no w v hG μ h.mo) rfl (show D ≤ _ by omega) h.up
/-- one learner's head has become another -/
theorem SRx.upL {m n D : Nat} {M M' : Nat → Nat → Int32} {S a : Nat} {g g' w L : Nat → Int32} {z it : Int32} {j : Nat} (h : SRx m n D M S a g w L z it) (hj : j < m)
    (h1 : ∀ c, c = S ∨ (S + 2 ≤ c ∧ c ≤ S + 6) ∨ (a ≤ c ∧ c < a + 16) → c ≠ a + 4 * j + 1 → c ≠ a + 4 * j + 2 → c ≠ a + 4 * j + 3 → M' c = M c) (hS : S + 6 < a) (hg0 : g' 0 = g 0) (hg1 : g' 1 = g 1)
    (hH : Hd M' (a + 4 * j) g' 0 j) (hO : ∀ l c, l ≠ j → Hd M' c g 0 l → Hd M' c g' 0 l) : SRx m n D M' S a g' w L z it := by
  have hm := h.m4
  have e : ∀ c, c = S ∨ (S + 2 ≤ c ∧ c ≤ S + 6) → M' c = M c := fun c hc => h1 c (by omega) (by omega) (by omega) (by omega)
  refine h.tr (by rw [e S (by omega)]) hg0 ⟨by rw [e S (by omega)]; exact h.dM, by rw [hg1]; exact h.dg⟩ (by rw [e S (by omega)]; exact h.zz) (fun q hq => by rw [e (S + 2) (by omega)]; exact h.ww q hq) h.w50 (by rw [e (S + 3) (by omega)]) (fun i _ => ⟨by rw [e (S + 4) (by omega)], by rw [e (S + 5) (by omega)], by rw [e (S + 6) (by omega)]⟩) (fun _ _ => rfl) rfl (fun l hl => ?_)
  by_cases el : l = j
  · subst el
    exact hH
  · refine hO l _ el ((h.hd l hl).fr ?_ ?_ ?_ ?_)
    · exact h1 _ (by omega) (by omega) (by omega) (by omega)
    · exact h1 _ (by omega) (by omega) (by omega) (by omega)
    · exact h1 _ (by omega) (by omega) (by omega) (by omega)
    · exact h1 _ (by omega) (by omega) (by omega) (by omega)
theorem SRx.ask {m n D : Nat} {ν : Me} {g w L : Nat → Int32} {z it : Int32} {j p : Nat} (h : SRx m n D ν.1 1 8 g w L z it) (hj : j < m) (hp : p < 36) (h0 : 0 ≤ nI D) (t : Int32) (W : Nat → Int32) : SRx m n D (keepM (ansM ν (fd g 0 j p t W)) (8 + 4 * j) p (nI D) (fd g 0 j p t W)).1 1 8 (akG g 0 j p (fd g 0 j p t W)) w L z it := by
  have hm := h.m4
  refine h.upL hj (fun c hc h1 h2 h3 => ?_) (by decide) (by rw [akG, ls3_out (by omega)]) (by rw [akG, ls3_out (by omega)]) ?_ (fun l c hl hh => hh.other hl)
  · rw [keepM, r3_ne h1 h2 h3, ansM_ne (by omega)]
  · refine Hd.ask (ν := ansM ν (fd g 0 j p t W)) ?_ hp h.dg.symm h0
    exact (h.hd j hj).fr (ansM_ne (by omega)) (ansM_ne (by omega)) (ansM_ne (by omega)) (ansM_ne (by omega))
theorem SRx.told {m n D : Nat} {ν : Me} {g w L : Nat → Int32} {z it : Int32} {j p : Nat} (h : SRx m n D ν.1 1 8 g w L z it) (hj : j < m) (hp : p < 36) : SRx m n D (uI ν (8 + 4 * j + 1) p (toldS (ν.1 (8 + 4 * j + 1) p))).1 1 8 (upd g (0 + 4 + 110 * j + 3 * p) (toldS (fM g 0 j p))) w L z it := by
  have hm := h.m4
  refine h.upL hj (fun c hc h1 h2 h3 => uI_ne h1) (by decide) (by rw [pk_un (by omega)]) (by rw [pk_un (by omega)]) ((h.hd j hj).told hp) (fun l c hl hh => ?_)
  rw [told_ls3 hp]
  exact hh.other hl
theorem restM_at {g : Int32} {k : Nat} {μ : Me} {l : Nat} : ∀ i, l < i → (restM g k μ i).1 (8 + 4 * l + 1) = sleepF g k (μ.1 (8 + 4 * l + 1)) (μ.1 (8 + 4 * l + 2))
  | 0, h => absurd h (by omega)
  | i + 1, h => by
    rw [restM]
    by_cases e : l = i
    · subst e
      rw [rI_eq]
    · rw [rI_ne (by omega), restM_at i (by omega)]
theorem SRx.rest {m n D : Nat} {ν : Me} {g w L : Nat → Int32} {z it : Int32} (h : SRx m n D ν.1 1 8 g w L z it) (k : Nat) : SRx m n (D + k) (uI (restM (ν.1 3 0) k ν m) 1 3 (ν.1 1 3 + nI k)).1 1 8 (ngN g 0 m (w 0) k) w L z it := by
  have hm := h.m4
  have hw : ν.1 3 0 = w 0 := h.ww 0 (by decide)
  have e : ∀ c, c ≠ 1 → (∀ j, j < m → c ≠ 8 + 4 * j + 1) → (uI (restM (ν.1 3 0) k ν m) 1 3 (ν.1 1 3 + nI k)).1 c = ν.1 c := fun c hc hj => by rw [uI_ne hc, restM_ne _ _ _ _ _ hj]
  have e1 : ∀ j, j ≠ 3 → (uI (restM (ν.1 3 0) k ν m) 1 3 (ν.1 1 3 + nI k)).1 1 j = ν.1 1 j := fun j hj => by rw [uI_off hj, restM_ne _ _ _ _ _ (fun _ _ => by omega)]
  refine h.tr (e1 1 (by decide)) (nN_A (A := 0) k) ⟨?_, ?_⟩ (by rw [e1 4 (by decide)]; exact h.zz) (fun q hq => by rw [e (1 + 2) (by decide) (fun _ _ => by omega)]; exact h.ww q hq) h.w50 (by rw [e (1 + 3) (by decide) (fun _ _ => by omega)]) (fun i _ => ⟨by rw [e (1 + 4) (by decide) (fun _ _ => by omega)], by rw [e (1 + 5) (by decide) (fun _ _ => by omega)], by rw [e (1 + 6) (by decide) (fun _ _ => by omega)]⟩) (fun _ _ => rfl) rfl (fun l hl => ?_)
  · rw [uI_at, h.dM, nI_add]
  · have := nN_day (g := g) (A := 0) (m := m) (w := w 0) k
    rw [show (0 : Nat) + 1 = 1 from rfl, h.dg, nI_add] at this
    exact this
  · refine (h.hd l hl).rest hl h.w50 (e _ (by omega) (fun _ _ => by omega)) (fun q hq => ?_) (e _ (by omega) (fun _ _ => by omega)) (e _ (by omega) (fun _ _ => by omega))
    rw [uI_ne (by omega), restM_at m hl, sleepF, if_pos hq, hw]
theorem SC.of {m n D : Nat} {μ : Me} {g w L : Nat → Int32} {z it : Int32} (h : SRx m n D μ.1 1 8 g w L z it) (hg : μ.1 83 = g) (hw : μ.1 84 = w) (hL : μ.1 89 = L) (hz : μ.1 82 4 = z) (hi : μ.1 82 18 = it) : SC m n D μ := by
  unfold SC
  rw [hg, hw, hL, hz, hi]
  exact h
theorem SRx.mem {m n D : Nat} {M M' : Nat → Nat → Int32} {S a : Nat} {g w L : Nat → Int32} {z it : Int32} (h : SRx m n D M S a g w L z it) (h1 : ∀ c, c = S ∨ (S + 2 ≤ c ∧ c ≤ S + 6) ∨ (a ≤ c ∧ c < a + 16) → M' c = M c) : SRx m n D M' S a g w L z it := h.fr h1 (fun _ _ => rfl) rfl rfl rfl rfl
theorem op_firm {m n D s : Nat} {μ : Me} (hD : D ≤ 108 * s) (h : RRx m n D s μ) (l p v : Int32) : OpI m_S_firm 1 m_M_firm 2 [.int l, .int p, .int v] μ s := by
  have hm := SRx.m4 h.sc
  have hc := h.sc.cls
  have c1 := c_S_firm hm l p v μ hc
  by_cases hG : (0 ≤ l ∧ l < nI m) ∧ (0 ≤ p ∧ p < 36) ∧ 0 ≤ v ∧ v ≤ 100
  · have hP : firmP μ l p v := by unfold firmP; rw [hc]; exact hG
    obtain ⟨j, hj, rfl⟩ := lr_yes hm hG.1
    obtain ⟨q, hq, rfl⟩ := pr_yes hG.2.1
    have c1 := Ct.mono (fun r μ' z => z.1 hP) c1
    rw [lcl_n (by omega), cl36 hq (by decide)] at c1
    have H : Hd μ.1 (8 + 4 * j) (μ.1 83) 0 j := SRx.hd h.sc j hj
    have a83 : (uI μ (8 + 4 * j + 1) q v).1 83 = μ.1 83 := uI_ne (by omega)
    have a82 : (uI μ (8 + 4 * j + 1) q v).1 82 = μ.1 82 := uI_ne (by omega)
    refine opI c1 (c_M_firm hm hj hq v hG.2.2 _ (by rw [a83]; exact h.sc.ref) (by rw [a82]; exact h.at0)) ?_ (show D ≤ _ by omega) (h.up.sch ⟨fun c h1 h2 => ?_, fun j h1 h2 h3 => ?_, fun _ _ => rfl⟩ (SC.of (g := upd (μ.1 83) (0 + 4 + 110 * j + 3 * q) v) (SRx.mem (M := (uI μ (8 + 4 * j + 1) q v).1) (SRx.upL h.sc hj (fun c hc h1 h2 h3 => uI_ne h1) (by decide) (by rw [pk_un (by omega)]) (by rw [pk_un (by omega)]) ?_ (fun l c hl hh => ?_)) (fun c hc' => uI_ne (by omega))) (by rw [uI_eq, a83]) (by rw [uI_ne (by decide), uI_ne (by omega)]) (by rw [uI_ne (by decide), uI_ne (by omega)]) (by rw [uI_ne (by decide), a82]) (by rw [uI_ne (by decide), a82])))
    · rw [a83]
      exact (H.2.2.2 q hq).1.1.symm
    · unfold scr at h1
      unfold schc at h2
      rw [uI_ne (by omega), uI_ne (by omega)]
    · rw [uI_ne (by decide), a82]
    · rw [told_ls3 hq]
      refine H.set (uI_ne (by omega)) (fun x hx => ⟨?_, ?_, ?_⟩) (upd_rg H.2.2.1.2 hG.2.2) (fun x hx => (H.2.2.2 x hx).2.1) (fun x hx => (H.2.2.2 x hx).2.2)
      · rw [uI_eq]
        exact upd_cg (H.2.2.2 x hx).1.1
      · rw [uI_ne (by omega)]
        exact (H.2.2.2 x hx).1.2.1
      · rw [uI_ne (by omega)]
        exact (H.2.2.2 x hx).1.2.2
    · rw [told_ls3 hq]
      exact hh.other hl
  · have hP : ¬ firmP μ l p v := by unfold firmP; rw [hc]; exact hG
    exact opI (Ct.mono (fun r μ' z => z.2 hP) c1) (c_M_firm_no hm l p v μ h.sc.ref hG) rfl (show D ≤ _ by omega) h.up
theorem rights_ls3 {g : Nat → Int32} {A l p : Nat} {v : Int32} (hp : p < 36) : upd g (A + 4 + 110 * l + 3 * p + 1) v = ls3 g A l (fM g A l) (upd (rM g A l) p v) (lM g A l) := by
  rw [← ls3_u2 hp, ls3_self]
theorem op_rights {m n D s : Nat} {μ : Me} (hD : D ≤ 108 * s) (h : RRx m n D s μ) (l p v : Int32) : OpI m_S_rights 1 m_M_rights 2 [.int l, .int p, .int v] μ s := by
  have hm := SRx.m4 h.sc
  have hc := h.sc.cls
  have c1 := c_S_rights hm l p v μ hc
  by_cases hG : (0 ≤ l ∧ l < nI m) ∧ (0 ≤ p ∧ p < 36) ∧ 0 ≤ v ∧ v ≤ 9
  · have hP : rightsP μ l p v := by unfold rightsP; rw [hc]; exact hG
    obtain ⟨j, hj, rfl⟩ := lr_yes hm hG.1
    obtain ⟨q, hq, rfl⟩ := pr_yes hG.2.1
    obtain ⟨v, hv, rfl⟩ := fNl (N := 9) (by decide) hG.2.2
    have c1 := Ct.mono (fun r μ' z => z.1 hP) c1
    rw [lcl_n (by omega), cl36 hq (by decide)] at c1
    have H : Hd μ.1 (8 + 4 * j) (μ.1 83) 0 j := SRx.hd h.sc j hj
    have a83 : (uI μ (8 + 4 * j + 2) q (nI v)).1 83 = μ.1 83 := uI_ne (by omega)
    have a82 : (uI μ (8 + 4 * j + 2) q (nI v)).1 82 = μ.1 82 := uI_ne (by omega)
    refine opI c1 (c_M_rights hm hj hq (nI v) hG.2.2 _ (by rw [a83]; exact h.sc.ref) (by rw [a82]; exact h.at0)) ?_ (show D ≤ _ by omega) (h.up.sch ⟨fun c h1 h2 => ?_, fun j h1 h2 h3 => ?_, fun _ _ => rfl⟩ (SC.of (g := upd (μ.1 83) (0 + 4 + 110 * j + 3 * q + 1) (nI v)) (SRx.mem (M := (uI μ (8 + 4 * j + 2) q (nI v)).1) (SRx.upL h.sc hj (fun c hc h1 h2 h3 => uI_ne h2) (by decide) (by rw [pk_un (by omega)]) (by rw [pk_un (by omega)]) ?_ (fun l c hl hh => ?_)) (fun c hc' => uI_ne (by omega))) (by rw [uI_eq, a83]) (by rw [uI_ne (by decide), uI_ne (by omega)]) (by rw [uI_ne (by decide), uI_ne (by omega)]) (by rw [uI_ne (by decide), a82]) (by rw [uI_ne (by decide), a82])))
    · rw [a83]
      exact (H.2.2.2 q hq).1.2.1.symm
    · unfold scr at h1
      unfold schc at h2
      rw [uI_ne (by omega), uI_ne (by omega)]
    · rw [uI_ne (by decide), a82]
    · rw [rights_ls3 hq]
      refine H.set (uI_ne (by omega)) (fun x hx => ⟨?_, ?_, ?_⟩) H.2.2.1.2 (fun x hx => ?_) (fun x hx => (H.2.2.2 x hx).2.2)
      · rw [uI_ne (by omega)]
        exact (H.2.2.2 x hx).1.1
      · rw [uI_eq]
        exact upd_cg (H.2.2.2 x hx).1.2.1
      · rw [uI_ne (by omega)]
        exact (H.2.2.2 x hx).1.2.2
      · by_cases e : x = q
        · subst e
          rw [pk_us]
          exact ⟨v, hv, rfl⟩
        · rw [pk_un e]
          exact (H.2.2.2 x hx).2.1
    · rw [rights_ls3 hq]
      exact hh.other hl
  · have hP : ¬ rightsP μ l p v := by unfold rightsP; rw [hc]; exact hG
    exact opI (Ct.mono (fun r μ' z => z.2 hP) c1) (c_M_rights_no hm l p v μ h.sc.ref hG) rfl (show D ≤ _ by omega) h.up
