/-! calls that change only what doesn't last -/
theorem Sme.ans {μ : Me} {q : Q4} : Sme μ (ansM μ q) := ⟨fun c hc => ansM_ne (by unfold scr at hc; omega), fun j _ => by rw [ansM_ne (by decide)], fun i _ => by rw [ansM_ne (by decide)], fun c _ => rfl⟩
theorem Sme.sa {μ : Me} {q : Q4} : Sme μ (saM μ q) := ⟨fun c hc => saM_ne (by unfold scr at hc; omega), fun j hj => saM_o (by unfold scj at hj; omega) (by unfold scj at hj; omega) (by unfold scj at hj; omega), fun i _ => by rw [saM_ne (by decide)], fun c _ => rfl⟩
theorem Sme.ri {μ : Me} {c : Nat} {f : Nat → Int32} (h : (49 ≤ c ∧ c ≤ 61) ∨ c = 64 ∨ c = 65 ∨ c = 86 ∨ c = 87 ∨ c = 90 ∨ c = 92 ∨ c = 101) : Sme μ (rI μ c f) := ⟨fun c' hc => rI_ne (by unfold scr at hc; omega), fun j _ => by rw [rI_ne (by omega)], fun i _ => by rw [rI_ne (by omega)], fun _ _ => rfl⟩
theorem Sme.ui {μ : Me} {c k : Nat} {v : Int32} (h : (49 ≤ c ∧ c ≤ 61) ∨ c = 64 ∨ c = 65 ∨ c = 86 ∨ c = 87 ∨ c = 90 ∨ c = 92 ∨ c = 101) : Sme μ (uI μ c k v) := Sme.ri h
theorem Sme.r83 {μ : Me} {f : Nat → Int32} (h : ∀ i, i < 442 → f i = μ.1 83 i) : Sme μ (rI μ 83 f) := ⟨fun c' hc => rI_ne (by unfold scr at hc; omega), fun j _ => by rw [rI_ne (by decide)], fun i hi => by rw [rI_eq]; exact h i hi, fun _ _ => rfl⟩
theorem Sme.spare {μ : Me} {c : Nat} : Sme μ (spareM μ c) := by
  unfold spareM r3
  exact (((Sme.ui (by omega)).tr (Sme.ui (by omega))).tr (Sme.ri (by omega))).tr ((Sme.ri (by omega)).tr (Sme.ri (by omega)))
theorem Sme.last {μ : Me} {F : Nat → Q4} : ∀ i, Sme μ (lastA μ F i)
  | 0 => Sme.rf
  | _ + 1 => Sme.ans
theorem Sme.lastSa {μ : Me} {F : Nat → Q4} : ∀ i, Sme μ (saL μ F i)
  | 0 => Sme.rf
  | _ + 1 => Sme.sa
theorem SC.find {m n D : Nat} {μ : Me} (h : SC m n D μ) {j q : Nat} (hj : j < m) (hq : q < 36) (t : Int32) : cF μ (8 + 4 * j) t q = fd (μ.1 83) 0 j q t (μ.1 84) := by
  unfold cF
  exact (SRx.hd h j hj).find hq (SRx.ww h 1 (by decide)) (SRx.ww h 2 (by decide))
theorem SC.kn {m n D : Nat} {μ : Me} (h : SC m n D μ) {j : Nat} (hj : j < m) (t : Int32) : knF (kb (μ.1 83) 0 j t (μ.1 84)) 36 = knS μ (8 + 4 * j) t := by
  unfold knS
  exact ((SRx.hd h j hj).known (SRx.ww h 1 (by decide)) (SRx.ww h 2 (by decide))).symm
theorem op_would {m n D s : Nat} {μ : Me} (hD : D ≤ 108 * s) (h : RRx m n D s μ) (l p t w : Int32) : OpI m_S_would 5 m_M_would 6 [.int l, .int p, .int t, .int w] μ s := by
  have hm := SRx.m4 h.sc
  have hc := h.sc.cls
  have c1 := c_S_would hm l p t w μ hc
  by_cases hG : (0 ≤ l ∧ l < nI m) ∧ (0 ≤ p ∧ p < 36) ∧ (1 ≤ t ∧ t ≤ 9) ∧ 0 ≤ w ∧ w ≤ 3
  · obtain ⟨j, hj, rfl⟩ := lr_yes hm hG.1
    obtain ⟨q, hq, rfl⟩ := pr_yes hG.2.1
    have H : Hd μ.1 (8 + 4 * j) (μ.1 83) 0 j := SRx.hd h.sc j hj
    have hP : wouldP μ (nI j) (nI q) t w := by unfold wouldP; rw [hc]; exact hG
    have e1 : ansS μ (nI j) (nI q) t = fd (μ.1 83) 0 j q t (μ.1 84) := by
      unfold ansS
      rw [lcl_n (by omega), cl36 hq (by decide)]
      exact h.sc.find hj hq t
    have h' := h.up.same (Sme.ans (q := ansS μ (nI j) (nI q) t))
    have e83 : (ansM μ (ansS μ (nI j) (nI q) t)).1 83 = μ.1 83 := ansM_ne (by decide)
    refine opI (Ct.mono (fun r μ' z => z.1 hP) c1) (c_M_would hm hj hq t w hG.2.2.1 hG.2.2.2 _ h'.sc.ref h'.at0 (by rw [e83]; exact H.2.2.1)) ?_ (show D ≤ _ by omega) (h'.same Sme.sa)
    rw [e83, ansM_ne (by decide), e1]
  · have hP : ¬ wouldP μ l p t w := by unfold wouldP; rw [hc]; exact hG
    exact opI (Ct.mono (fun r μ' z => z.2 hP) c1) (c_M_would_no hm l p t w μ h.sc.ref hG) rfl (show D ≤ _ by omega) h.up
theorem op_known {m n D s : Nat} {μ : Me} (hD : D ≤ 108 * s) (h : RRx m n D s μ) (l t : Int32) : OpL m_S_known 6 m_M_known 7 [.int l, .int t] μ s := by
  have hm := SRx.m4 h.sc
  have hc := h.sc.cls
  by_cases hG : (0 ≤ l ∧ l < nI m) ∧ 1 ≤ t ∧ t ≤ 9
  · obtain ⟨j, hj, rfl⟩ := lr_yes hm hG.1
    have h' : RRx m n D (s + 1) (knA μ (8 + 4 * j) t) := h.up.same Sme.ans
    refine opL (c_S_known hm hj t hG.2 μ hc) (c_M_known hm hj t hG.2 _ h'.sc.ref h'.at0 ((SRx.hd h'.sc j hj).2.2.1)) ?_ (show D ≤ _ by omega) h'
    rw [knA_1 (by decide), knA_1 (by decide)]
    exact h.sc.kn hj t
  · exact opL (c_S_known_no l t μ hc hm hG) (c_M_known_no hm l t μ h.sc.ref hG) rfl (show D ≤ _ by omega) h.up
theorem Hd.fri {μ : Me} {c j m k : Nat} {w : Int32} (h : Hd μ.1 c (μ.1 83) 0 j) (hj : j < m) (hm : m ≤ 4) (hw : 0 ≤ w ∧ w ≤ 50) (e0 : μ.1 3 0 = w) : Hd (friA μ c k).1 53 (frG (μ.1 83) m w k) 442 j := by
  have h1 : Hd (spareM μ c).1 53 (ldG (μ.1 83) 442) 442 j := h.lend (by omega) spare_k spare_a (fun q hq => ⟨by rw [spare_54, cut_in hq], by rw [spare_55, cut_in hq], by rw [spare_56, cut_in hq]⟩)
  refine h1.rest hj hw (by rw [friA, rI_ne (by decide)]) (fun q hq => ?_) (by rw [friA, rI_ne (by decide)]) (by rw [friA, rI_ne (by decide)])
  rw [spare_54, spare_55, friA, show (53 : Nat) + 1 = 54 from rfl, rI_eq, friF, sleepF, if_pos hq, e0]
theorem op_friday {m n D s : Nat} {μ : Me} (hD : D ≤ 108 * s) (h : RRx m n D s μ) (l k t : Int32) : OpL m_S_friday 6 m_M_friday 7 [.int l, .int k, .int t] μ s := by
  have hm := SRx.m4 h.sc
  have hc := h.sc.cls
  by_cases hG : (0 ≤ l ∧ l < nI m) ∧ (0 ≤ k ∧ k ≤ 30) ∧ 1 ≤ t ∧ t ≤ 9
  · obtain ⟨j, hj, rfl⟩ := lr_yes hm hG.1
    obtain ⟨k, hk, rfl⟩ := fNl (N := 30) (by decide) hG.2.1
    have H : Hd μ.1 (8 + 4 * j) (μ.1 83) 0 j := SRx.hd h.sc j hj
    have e0 : μ.1 3 0 = μ.1 84 0 := SRx.ww h.sc 0 (by decide)
    have HF := H.fri (k := k) hj hm (SRx.w50 h.sc) e0
    have s1 : Sme μ (friA μ (8 + 4 * j) k) := Sme.spare.tr (Sme.ri (by omega))
    have h' := h.up.same (s1.tr (Sme.ans (q := findS (μ.1 (8 + 4 * j) 0) (μ.1 (8 + 4 * j) 1) (friF μ (8 + 4 * j) k) 35 t (μ.1 3 1) (μ.1 3 2))))
    have e83 : (ansM (friA μ (8 + 4 * j) k) (findS (μ.1 (8 + 4 * j) 0) (μ.1 (8 + 4 * j) 1) (friF μ (8 + 4 * j) k) 35 t (μ.1 3 1) (μ.1 3 2))).1 83 = μ.1 83 := by
      rw [ansM_ne (by decide), friA, rI_ne (by decide), spare_lo (by omega)]
    have e84 : (ansM (friA μ (8 + 4 * j) k) (findS (μ.1 (8 + 4 * j) 0) (μ.1 (8 + 4 * j) 1) (friF μ (8 + 4 * j) k) 35 t (μ.1 3 1) (μ.1 3 2))).1 84 = μ.1 84 := by
      rw [ansM_ne (by decide), friA, rI_ne (by decide), spare_lo (by omega)]
    refine opL (c_S_friday hm hj hk t hG.2.2 μ hc (h.sc.rt.ne j hj)) (c_M_friday hm hj hk t hG.2.2 _ h'.sc.ref h'.at0 h'.sc.ok.2.2 (by rw [e83, e84]; exact HF.2.2.1)) ?_ (show D ≤ _ by omega) (h'.same (Sme.r83 (fun i hi => by rw [frG, nN_lo hi, ld_lo hi])))
    rw [e83, e84, ← HF.known (W := μ.1 84) (t := t) (SRx.ww h.sc 1 (by decide)) (SRx.ww h.sc 2 (by decide))]
    rw [show (friA μ (8 + 4 * j) k).1 (53 + 1) = friF μ (8 + 4 * j) k from rI_eq, friA, rI_ne (by decide), spare_k, spare_a]
  · exact opL (c_S_friday_no l k t μ hc hm hG) (c_M_friday_no hm l k t μ h.sc.ref hG) rfl (show D ≤ _ by omega) h.up
theorem abF_congr {g g' : Nat → Int64} : ∀ i, (∀ q, q < i → g q = g' q) → abF g i = abF g' i
  | 0, _ => rfl
  | i + 1, hh => by rw [abF, abF, abF_congr i (fun q hq => hh q (by omega)), hh i (by omega)]
theorem op_odds {m n D s : Nat} {μ : Me} (hD : D ≤ 108 * s) (h : RRx m n D s μ) (t w : Int32) : OpI m_S_odds 6 m_M_odds 7 [.int t, .int w] μ s := by
  have hm := SRx.m4 h.sc
  have hc := h.sc.cls
  by_cases hG : (1 ≤ t ∧ t ≤ 9) ∧ 0 ≤ w ∧ w ≤ 1
  · by_cases h0 : m = 0
    · subst h0
      exact opI (c_S_odds_none hG μ hc) (c_M_odds_none hG μ h.sc.ref) rfl (show D ≤ _ by omega) h.up
    · have h' : RRx m n D (s + 1) (oddM μ t m) := h.up.same (Sme.last m)
      have e83 : (oddM μ t m).1 83 = μ.1 83 := lastA_ne (by decide) m
      have e84 : (oddM μ t m).1 84 = μ.1 84 := lastA_ne (by decide) m
      refine opI (c_S_odds hG (by omega) hm μ hc) (c_M_odds hG (by omega) hm _ h'.sc.ref h'.at0 h'.sc.ok.2.1) ?_ (show D ≤ _ by omega) h'
      rw [e83, e84, abF_congr (g := mkn (μ.1 83) t (μ.1 84)) (g' := lknS μ t) m (fun q hq => h.sc.kn hq t)]
  · exact opI (c_S_odds_bad hG μ) (c_M_odds_bad hG μ) rfl (show D ≤ _ by omega) h.up
theorem hdF_congr {g g' : Nat → Nat} : ∀ i, (∀ q, q < i → g q = g' q) → hdF g i = hdF g' i
  | 0, _ => rfl
  | i + 1, hh => by rw [hdF, hdF, hdF_congr i (fun q hq => hh q (by omega)), hh i (by omega)]
theorem op_hardest {m n D s : Nat} {μ : Me} (hD : D ≤ 108 * s) (h : RRx m n D s μ) (t : Int32) : OpI m_S_hardest 6 m_M_hardest 6 [.int t] μ s := by
  have hm := SRx.m4 h.sc
  have hc := h.sc.cls
  by_cases hG : 1 ≤ t ∧ t ≤ 9
  · by_cases h0 : m = 0
    · subst h0
      exact opI (c_S_hardest_none hG μ hc) (c_M_hardest_none hG μ h.sc.ref) rfl (show D ≤ _ by omega) h.up
    · have h' : RRx m n D (s + 1) (hdM μ t m 36) := h.up.same (Sme.last 36)
      have e83 : (hdM μ t m 36).1 83 = μ.1 83 := lastA_ne (by decide) 36
      have e84 : (hdM μ t m 36).1 84 = μ.1 84 := lastA_ne (by decide) 36
      refine opI (c_S_hardest hG (by omega) hm μ hc) (c_M_hardest hG (by omega) hm _ h'.sc.ref h'.at0 h'.sc.ok.2.1) ?_ (show D ≤ _ by omega) h'
      rw [e83, e84, hdF_congr (g := akn (μ.1 83) t (μ.1 84) m) (g' := allkn μ t m) 36 (fun p hp => hmk_congr m (fun l hl => ((SRx.hd h.sc l hl).kbe hp (SRx.ww h.sc 1 (by decide)) (SRx.ww h.sc 2 (by decide))).symm))]
  · exact opI (c_S_hardest_bad hG μ) (c_M_hardest_bad hG μ) rfl (show D ≤ _ by omega) h.up
theorem slF_congr {F F' : Nat → Q4} : ∀ i, (∀ q, q < i → F q = F' q) → slF F i = slF F' i
  | 0, _ => rfl
  | i + 1, hh => by rw [slF, slF, slF_congr i (fun q hq => hh q (by omega)), hh i (by omega)]
theorem mxF_congr {g g' : Nat → Int32} : ∀ i, (∀ q, q ≤ i → g q = g' q) → mxF g i = mxF g' i
  | 0, _ => rfl
  | i + 1, hh => by
    have := mxF_le g' i
    rw [mxF, mxF, mxF_congr i (fun q hq => hh q (by omega)), hh (i + 1) (by omega), hh (mxF g' i) (by omega)]
theorem drwS_congr {g g' : Nat → Int32} {w : Int32} (hh : ∀ q, q ≤ 35 → g q = g' q) : drwS g w = drwS g' w := by
  unfold drwS
  rw [mxF_congr 35 hh, hh _ (mxF_le g' 35)]
theorem op_draws {m n D s : Nat} {μ : Me} (hD : D ≤ 108 * s) (h : RRx m n D s μ) (l t w : Int32) : OpI m_S_draws 6 m_M_draws 6 [.int l, .int t, .int w] μ s := by
  have hm := SRx.m4 h.sc
  have hc := h.sc.cls
  by_cases hG : (0 ≤ l ∧ l < nI m) ∧ (1 ≤ t ∧ t ≤ 9) ∧ 0 ≤ w ∧ w ≤ 1
  · obtain ⟨j, hj, rfl⟩ := lr_yes hm hG.1
    have h' : RRx m n D (s + 1) (slM μ (8 + 4 * j) t 36) := h.up.same ((Sme.ri (c := 61) (f := cut 36 (slF (cF μ (8 + 4 * j) t) 36) (μ.1 61)) (by omega)).tr (Sme.last 36))
    have e83 : (slM μ (8 + 4 * j) t 36).1 83 = μ.1 83 := slM_ne (by decide) (by decide)
    have e84 : (slM μ (8 + 4 * j) t 36).1 84 = μ.1 84 := slM_ne (by decide) (by decide)
    refine opI (c_S_draws hm hj t w hG.2.1 hG.2.2 μ hc) (c_M_draws hm hj t w hG.2.1 hG.2.2 _ h'.sc.ref h'.at0 ((SRx.hd h'.sc j hj).2.2.1)) ?_ (show D ≤ _ by omega) (h'.same ((Sme.lastSa 36).tr (Sme.ri (by omega))))
    rw [e83, e84]
    refine drwS_congr (fun q hq => ?_)
    rw [cut_in (by omega), cut_in (by omega), slF_congr 36 (fun p hp => (h.sc.find hj hp t).symm)]
  · exact opI (c_S_draws_no l t w μ hc hm hG) (c_M_draws_no hm l t w μ h.sc.ref hG) rfl (show D ≤ _ by omega) h.up
theorem op_best {m n D s : Nat} {μ : Me} (hD : D ≤ 108 * s) (h : RRx m n D s μ) (l k d w : Int32) : OpI m_S_best 3 m_M_best 3 [.int l, .int k, .int d, .int w] μ s := by
  have hm := SRx.m4 h.sc
  have hc := h.sc.cls
  by_cases hG : (0 ≤ l ∧ l < nI m) ∧ (1 ≤ k ∧ k ≤ 2) ∧ (0 ≤ d ∧ d ≤ 9) ∧ 0 ≤ w ∧ w ≤ 1
  · obtain ⟨j, hj, rfl⟩ := lr_yes hm hG.1
    obtain ⟨d, hd, rfl⟩ := fNl (N := 9) (by decide) hG.2.2.1
    obtain ⟨k, hk, rfl⟩ : ∃ a, (a = 1 ∨ a = 2) ∧ k = nI a := by
      obtain ⟨a, ha, rfl⟩ := fNl (x := k) (N := 2) (by decide) ⟨Int32.le_trans (by decide) hG.2.1.1, hG.2.1.2⟩
      refine ⟨a, ?_, rfl⟩
      have : a ≠ 0 := fun z => by subst z; exact absurd hG.2.1.1 (by decide)
      omega
    have H : Hd μ.1 (8 + 4 * j) (μ.1 83) 0 j := SRx.hd h.sc j hj
    have e0 : μ.1 84 0 = μ.1 3 0 := (SRx.ww h.sc 0 (by decide)).symm
    have hw := SRx.w50 h.sc
    have s1 : Sme μ (plM (bsM μ (8 + 4 * j) d) (bsW μ (8 + 4 * j) k d)) := by
      unfold plM bsM wgM
      exact (((Sme.ri (by omega)).tr (Sme.ri (by omega))).tr (Sme.ui (by omega))).tr ((Sme.ui (by omega)).tr (Sme.ui (by omega)))
    have h' := h.up.same s1
    have e83 : (plM (bsM μ (8 + 4 * j) d) (bsW μ (8 + 4 * j) k d)).1 83 = μ.1 83 := by
      rw [plM_ne (by decide), bsM, wgM, uI_ne (by decide), rI_ne (by decide), rI_ne (by decide)]
    have e84 : (plM (bsM μ (8 + 4 * j) d) (bsW μ (8 + 4 * j) k d)).1 84 = μ.1 84 := by
      rw [plM_ne (by decide), bsM, wgM, uI_ne (by decide), rI_ne (by decide), rI_ne (by decide)]
    have q1 : ∀ p, p < 36 → bhS (μ.1 83) j (μ.1 84 0) d p 0 = thF (μ.1 3 0) d (μ.1 (8 + 4 * j + 1)) (μ.1 (8 + 4 * j + 2)) p := fun p hp => by
      unfold bhS thF tol
      rw [(H.2.2.2 p hp).1.1, (H.2.2.2 p hp).1.2.1, e0]
    have q2 : ∀ p, p < 36 → cut 36 (onF (μ.1 3 0) d (μ.1 (8 + 4 * j + 1)) (μ.1 (8 + 4 * j + 2))) (μ.1 59) p = bhS (μ.1 83) j (μ.1 84 0) d p 1 - bhS (μ.1 83) j (μ.1 84 0) d p 0 := fun p hp => by
      rw [cut_in hp]
      unfold bhS onF
      rw [(H.2.2.2 p hp).1.1, (H.2.2.2 p hp).1.2.1, e0]
      rfl
    have q3 : ∀ p, p < 36 → cut 36 (twF (μ.1 3 0) d (μ.1 (8 + 4 * j + 1)) (μ.1 (8 + 4 * j + 2))) (μ.1 60) p = bhS (μ.1 83) j (μ.1 84 0) d p 2 - bhS (μ.1 83) j (μ.1 84 0) d p 0 := fun p hp => by
      rw [cut_in hp]
      unfold bhS twF
      rw [(H.2.2.2 p hp).1.1, (H.2.2.2 p hp).1.2.1, e0]
      rfl
    have gk : ∀ p, p < 36 → _ := fun p hp => gain_ok (H.2.2.1.2 p hp) hw (H.2.2.2 p hp).2.1 d
    have c2 := c_M_best hm hj hk hd w (μ.1 58 4) hG.2.2.2 _ h'.sc.ref h'.at0 (SRx.hd h'.sc j hj).2.2.1 (h'.sc.ok.2.2.ne j hj) (cut 36 (onF (μ.1 3 0) d (μ.1 (8 + 4 * j + 1)) (μ.1 (8 + 4 * j + 2))) (μ.1 59)) (cut 36 (twF (μ.1 3 0) d (μ.1 (8 + 4 * j + 1)) (μ.1 (8 + 4 * j + 2))) (μ.1 60)) (by rw [e83, e84]; exact q2) (by rw [e83, e84]; exact q3) (fun p hp => by rw [q2 p hp]; exact (gk p hp).1) (fun p hp => by rw [q3 p hp]; exact (gk p hp).2) (by rw [e83, e84]; exact fun p hp => beh_r (H.2.2.1.2 p hp) hw (H.2.2.2 p hp).2.1 d)
    refine opI (c_S_best hm hj hk hd w hG.2.2.2 μ hc (h.sc.rt.ne j hj)) c2 ?_ (show D ≤ _ by omega) (h'.same (Sme.ri (by omega)))
    unfold bx
    rw [e83, e84, sumF_congr 36 q1]
    rfl
  · exact opI (c_S_best_no l k d w μ hc hm hG) (c_M_best_no hm l k d w μ h.sc.ref hG) rfl (show D ≤ _ by omega) h.up
