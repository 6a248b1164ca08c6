/-! calls that change nothing that lasts -/
theorem fN {x : Int32} {N : Nat} (hN : N < 2 ^ 31) (h : 0 ≤ x ∧ x < nI N) : ∃ j, j < N ∧ x = nI j := by
  rcases pk_ix x hN with z | z | z
  · exact absurd z (Int32.not_lt.mpr h.1)
  · exact absurd h.2 (Int32.not_lt.mpr z)
  · exact z
theorem fNl {x : Int32} {N : Nat} (hN : N + 1 < 2 ^ 31) (h : 0 ≤ x ∧ x ≤ nI N) : ∃ j, j ≤ N ∧ x = nI j := by
  obtain ⟨j, hj, e⟩ := fN (x := x) (N := N + 1) hN ⟨h.1, by
    rcases pk_ix x (n := N + 1) hN with z | z | ⟨j, hj, rfl⟩
    · exact absurd z (Int32.not_lt.mpr h.1)
    · exact absurd h.2 (Int32.not_le.mpr (Int32.lt_of_lt_of_le (nI_lt (Nat.lt_succ_self N) hN) z))
    · exact nI_lt hj hN⟩
  exact ⟨j, by omega, e⟩
theorem op_pair {m n D s : Nat} {μ : Me} (hD : D ≤ 108 * s) (h : RRx m n D s μ) (a b : Int32) : OpI m_S_pair 2 m_M_pair 2 [.int a, .int b] μ s := opI (c_S_pair a b μ) (c_M_pair a b μ) rfl (show D ≤ _ by omega) h.up
theorem op_pairOf {m n D s : Nat} {μ : Me} (hD : D ≤ 108 * s) (h : RRx m n D s μ) (p w : Int32) : OpI m_S_pairOf 1 m_M_pairOf 2 [.int p, .int w] μ s := opI (c_S_pairOf p w μ) (c_M_pairOf p w μ) rfl (show D ≤ _ by omega) h.up
theorem op_tied {m n D s : Nat} {μ : Me} (hD : D ≤ 108 * s) (h : RRx m n D s μ) (p : Int32) : OpL m_S_tied 3 m_M_tied 3 [.int p] μ s := by
  by_cases hp : 0 ≤ p ∧ p < 36
  · obtain ⟨q, hq, rfl⟩ := pr_yes hp
    exact opL (c_S_tied q hq μ) (c_M_tied q hq μ) rfl (show D ≤ _ by omega) h.up
  · exact opL (c_S_tied_no p hp μ) (c_M_tied_no p hp μ) rfl (show D ≤ _ by omega) h.up
theorem op_day {m n D s : Nat} {μ : Me} (hD : D ≤ 108 * s) (h : RRx m n D s μ) : OpI m_S_day 0 m_M_day 0 [] μ s := opI (c_S_day μ) (c_M_day μ) ((SRx.dg h.sc).trans (SRx.dM h.sc).symm) (show D ≤ _ by omega) h.up
theorem op_learnerOf {m n D s : Nat} {μ : Me} (hD : D ≤ 108 * s) (h : RRx m n D s μ) (l w : Int32) : OpI m_S_learnerOf 2 m_M_learnerOf 3 [.int l, .int w] μ s := by
  have hm := SRx.m4 h.sc
  have hc := h.sc.cls
  have c1 := c_S_learnerOf hm l w μ hc
  by_cases hG : (0 ≤ l ∧ l < nI m) ∧ 0 ≤ w ∧ w ≤ 2
  · obtain ⟨j, hj, rfl⟩ := lr_yes hm hG.1
    have H : Hd μ.1 (8 + 4 * j) (μ.1 83) 0 j := SRx.hd h.sc j hj
    refine opI c1 (c_M_learnerOf hm hj w hG.2 μ h.sc.ref h.at0) ?_ (show D ≤ _ by omega) h.up
    have hl' : 0 ≤ nI j ∧ nI j < μ.1 1 1 := by rw [hc]; exact hG.1
    unfold lrnOfS
    rw [if_pos hl', lcl_n (by omega)]
    obtain ⟨k, hk, rfl⟩ := t3 hG.2
    rcases (show k = 0 ∨ k = 1 ∨ k = 2 by omega) with rfl | rfl | rfl
    · rw [if_pos (by decide), if_pos (by decide)]
      exact H.1.1.symm
    · rw [if_neg (by decide), if_pos (by decide), if_neg (by decide), if_pos (by decide)]
      exact H.1.2.symm
    · rw [if_neg (by decide), if_neg (by decide), if_neg (by decide), if_neg (by decide), if_pos (by decide)]
      exact sumF_congr 36 (fun q hq => (H.2.2.2 q hq).1.1.symm)
  · refine opI c1 (c_M_learnerOf_no hm l w μ h.sc.ref hG) ?_ (show D ≤ _ by omega) h.up
    unfold lrnOfS
    rw [hc]
    by_cases hl : 0 ≤ l ∧ l < nI m
    · rw [if_pos hl, if_neg (fun z => hG ⟨hl, by rw [z]; decide⟩), if_neg (fun z => hG ⟨hl, by rw [z]; decide⟩), if_neg (fun z => hG ⟨hl, by rw [z]; decide⟩)]
    · rw [if_neg hl]
theorem op_head {m n D s : Nat} {μ : Me} (hD : D ≤ 108 * s) (h : RRx m n D s μ) (l p w : Int32) : OpI m_S_head 3 m_M_head 4 [.int l, .int p, .int w] μ s := by
  have hm := SRx.m4 h.sc
  have hc := h.sc.cls
  have c1 := c_S_head hm l p w μ hc
  by_cases hG : (0 ≤ l ∧ l < nI m) ∧ (0 ≤ p ∧ p < 36) ∧ 0 ≤ w ∧ w ≤ 4
  · obtain ⟨j, hj, rfl⟩ := lr_yes hm hG.1
    obtain ⟨q, hq, rfl⟩ := pr_yes hG.2.1
    obtain ⟨k, hk, rfl⟩ := fNl (N := 4) (by decide) hG.2.2
    have H : Hd μ.1 (8 + 4 * j) (μ.1 83) 0 j := SRx.hd h.sc j hj
    obtain ⟨⟨a1, a2, a3⟩, -, a5⟩ := H.2.2.2 q hq
    refine opI c1 (c_M_head hm hj hq hk μ h.sc.ref h.at0 a5) ?_ (show D ≤ _ by omega) h.up
    have hl' : 0 ≤ nI j ∧ nI j < μ.1 1 1 := by rw [hc]; exact hG.1
    unfold headS
    rw [if_pos hl', if_pos hG.2.1, lcl_n (by omega), cl36 hq (by decide), a1, a2, a3]
    rcases (show k = 0 ∨ k = 1 ∨ k = 2 ∨ k = 3 ∨ k = 4 by omega) with rfl | rfl | rfl | rfl | rfl
    · rw [if_pos (by decide), if_pos (by decide)]; rfl
    · rw [if_pos (by decide), if_neg (by decide), if_pos (by decide)]; rfl
    · rw [if_pos (by decide), if_neg (by decide), if_neg (by decide), if_pos (by decide)]; rfl
    · rw [if_neg (by decide), if_pos (by decide), if_neg (by decide), if_neg (by decide), if_neg (by decide), if_pos (by decide)]
    · rw [if_neg (by decide), if_neg (by decide), if_neg (by decide), if_neg (by decide), if_neg (by decide), if_neg (by decide), if_pos (by decide)]
  · refine opI c1 (c_M_head_no hm l p w μ h.sc.ref hG) ?_ (show D ≤ _ by omega) h.up
    unfold headS
    rw [hc]
    by_cases hl : 0 ≤ l ∧ l < nI m
    · rw [if_pos hl]
      by_cases hp : 0 ≤ p ∧ p < 36
      · rw [if_pos hp, if_neg (fun z => hG ⟨hl, hp, by rw [z]; decide⟩), if_neg (fun z => hG ⟨hl, hp, by rw [z]; decide⟩), if_neg (fun z => hG ⟨hl, hp, by rw [z]; decide⟩), if_neg (fun z => hG ⟨hl, hp, by rw [z]; decide⟩), if_neg (fun z => hG ⟨hl, hp, by rw [z]; decide⟩)]
      · rw [if_neg hp]
    · rw [if_neg hl]
theorem op_feel {m n D s : Nat} {μ : Me} (hD : D ≤ 108 * s) (h : RRx m n D s μ) (l p t : Int32) : OpI m_S_feel 2 m_M_feel 3 [.int l, .int p, .int t] μ s := by
  have hm := SRx.m4 h.sc
  have hc := h.sc.cls
  have c1 := c_S_feel hm l p t μ hc
  by_cases hG : (0 ≤ l ∧ l < nI m) ∧ (0 ≤ p ∧ p < 36) ∧ 1 ≤ t ∧ t ≤ 9
  · obtain ⟨j, hj, rfl⟩ := lr_yes hm hG.1
    obtain ⟨q, hq, rfl⟩ := pr_yes hG.2.1
    have H : Hd μ.1 (8 + 4 * j) (μ.1 83) 0 j := SRx.hd h.sc j hj
    refine opI c1 (c_M_feel hm hj hq t hG.2.2 μ h.sc.ref h.at0 H.2.2.1) ?_ (show D ≤ _ by omega) h.up
    have hl' : 0 ≤ nI j ∧ nI j < μ.1 1 1 := by rw [hc]; exact hG.1
    unfold feelM
    rw [if_pos hl', if_pos hG.2.1, if_pos hG.2.2, lcl_n (by omega), cl36 hq (by decide), H.1.1, H.1.2, (H.2.2.2 q hq).1.1]
  · refine opI c1 (c_M_feel_no hm l p t μ h.sc.ref hG) ?_ (show D ≤ _ by omega) h.up
    unfold feelM
    rw [hc]
    by_cases hl : 0 ≤ l ∧ l < nI m
    · rw [if_pos hl]
      by_cases hp : 0 ≤ p ∧ p < 36
      · rw [if_pos hp, if_neg (fun z => hG ⟨hl, hp, z⟩)]
      · rw [if_neg hp]
    · rw [if_neg hl]
theorem cardF_congr {g g' : Nat → Int32} : ∀ i, (∀ q, q ≤ i → g q = g' q) → cardF g i = cardF g' i
  | 0, _ => rfl
  | i + 1, hh => by
    have := cardF_le g' i
    rw [cardF, cardF, cardF_congr i (fun q hq => hh q (by omega)), hh (i + 1) (by omega), hh (cardF g' i) (by omega)]
theorem op_card {m n D s : Nat} {μ : Me} (hD : D ≤ 108 * s) (h : RRx m n D s μ) (l : Int32) : OpI m_S_card 3 m_M_card 4 [.int l] μ s := by
  have hm := SRx.m4 h.sc
  have hc := h.sc.cls
  by_cases hG : 0 ≤ l ∧ l < nI m
  · obtain ⟨j, hj, rfl⟩ := lr_yes hm hG
    have H : Hd μ.1 (8 + 4 * j) (μ.1 83) 0 j := SRx.hd h.sc j hj
    refine opI (c_S_card hm hj μ hc) (c_M_card hm hj μ h.sc.ref h.at0 (fun p hp => (H.2.2.2 p hp).2.2)) ?_ (show D ≤ _ by omega) h.up
    have e : ∀ q, q ≤ 35 → dueF (rM (μ.1 83) 0 j) (lM (μ.1 83) 0 j) q = dueF (μ.1 (8 + 4 * j + 2)) (μ.1 (8 + 4 * j + 3)) q := fun q hq => by
      unfold dueF
      rw [(H.2.2.2 q (by omega)).1.2.1, (H.2.2.2 q (by omega)).1.2.2]
    have := cardF_le (dueF (μ.1 (8 + 4 * j + 2)) (μ.1 (8 + 4 * j + 3))) 35
    unfold cardS
    rw [cardF_congr 35 e, e _ this, show μ.1 83 1 = μ.1 1 3 from (SRx.dg h.sc).trans (SRx.dM h.sc).symm]
  · exact opI (c_S_card_no l μ hc hG) (c_M_card_no hm l μ h.sc.ref hG) rfl (show D ≤ _ by omega) h.up
theorem op_till {m n D s : Nat} {μ : Me} (hD : D ≤ 108 * s) (h : RRx m n D s μ) (l p v : Int32) : OpI m_S_till 3 m_M_till 2 [.int l, .int p, .int v] μ s := by
  have hm := SRx.m4 h.sc
  have hc := h.sc.cls
  by_cases hG : (0 ≤ l ∧ l < nI m) ∧ (0 ≤ p ∧ p < 36) ∧ 0 ≤ v ∧ v ≤ 100
  · obtain ⟨j, hj, rfl⟩ := lr_yes hm hG.1
    obtain ⟨q, hq, rfl⟩ := pr_yes hG.2.1
    have H : Hd μ.1 (8 + 4 * j) (μ.1 83) 0 j := SRx.hd h.sc j hj
    refine opI (c_S_till hm hj hq v hG.2.2 μ hc) (c_M_till hm hj hq v hG.2.2 μ h.sc.ref h.at0 H.2.2.1) ?_ (show D ≤ _ by omega) h.up
    rw [(H.2.2.2 q hq).1.1]
  · exact opI (c_S_till_no l p v μ hc hm hG) (c_M_till_no hm l p v μ h.sc.ref hG) rfl (show D ≤ _ by omega) h.up
theorem op_item {m n D s : Nat} {μ : Me} (hD : D ≤ 108 * s) (h : RRx m n D s μ) (i w : Int32) : OpI m_S_item 1 m_M_item 1 [.int i, .int w] μ s := by
  have hn := SRx.n12 h.sc
  have hl : μ.1 4 3 = nI n := SRx.ln h.sc
  have c1 := c_S_item hn i w μ hl
  have hi : μ.1 82 18 = nI n := SRx.im h.sc
  by_cases hw : 0 ≤ w ∧ w ≤ 2
  · by_cases hx : 0 ≤ i ∧ i < nI n
    · obtain ⟨a, ha, rfl⟩ := fN (by omega) hx
      obtain ⟨k, hk, rfl⟩ := t3 hw
      refine opI c1 (c_M_item hn ha hk μ hi) ?_ (show D ≤ _ by omega) h.up
      obtain ⟨⟨b1, b2, b3⟩, -⟩ := SRx.ls h.sc a ha
      unfold itemS
      rw [hl, if_pos hw, if_pos hx, cl36 ha (by omega)]
      rcases (show k = 0 ∨ k = 1 ∨ k = 2 by omega) with rfl | rfl | rfl
      · rw [if_pos (by decide)]
        exact b1.symm
      · rw [if_neg (by decide), if_pos (by decide)]
        exact b2.symm
      · rw [if_neg (by decide), if_neg (by decide)]
        exact b3.symm
    · refine opI c1 (c_M_item_no hn i w μ hw hi hx) ?_ (show D ≤ _ by omega) h.up
      unfold itemS
      rw [hl, if_pos hw, if_neg hx]
  · refine opI c1 (c_M_item_bad i w μ hw) ?_ (show D ≤ _ by omega) h.up
    unfold itemS
    rw [if_neg hw]
theorem op_row {m n D s : Nat} {μ : Me} (hD : D ≤ 108 * s) (h : RRx m n D s μ) (i w : Int32) : OpI m_S_row 2 m_M_row 2 [.int i, .int w] μ s := by
  obtain ⟨n1, hn, ⟨e1, e2⟩, hr⟩ := h.2.2.2.2.1
  have c1 := c_S_row hn i w μ e1
  by_cases hG : (0 ≤ i ∧ i < nI n1) ∧ 0 ≤ w ∧ w ≤ 2
  · obtain ⟨a, ha, rfl⟩ := fN (by omega) hG.1
    obtain ⟨k, hk, rfl⟩ := t3 hG.2
    refine opI c1 (c_M_row hn ha hk μ e2) ?_ (show D ≤ _ by omega) h.up
    have e3 : plcS (μ.1 62 1) (nI a) (nI k) = nI (3 * a + k) := by
      unfold plcS
      rw [e1, if_pos ⟨hG.1.1, hG.1.2, hG.2⟩, mul3, nI_add]
    unfold rowS
    rw [e3, if_neg (nI_pos (by omega)), nI_clamp (by omega)]
    exact (hr _ (by omega)).symm
  · refine opI c1 (c_M_row_no hn i w μ e2 hG) ?_ (show D ≤ _ by omega) h.up
    have e3 : plcS (μ.1 62 1) i w = -9 := by
      unfold plcS
      rw [e1, if_neg (fun z => hG ⟨⟨z.1, z.2.1⟩, z.2.2⟩)]
    unfold rowS
    rw [e3, if_pos (by decide)]
theorem op_trace {m n D s : Nat} {μ : Me} (hD : D ≤ 108 * s) (h : RRx m n D s μ) (i : Int32) : OpI m_S_trace 0 m_M_trace 1 [.int i] μ s := by
  obtain ⟨k, hk, ⟨e1, e2⟩, hr⟩ := h.2.2.2.2.2.2.2
  refine opI (c_S_trace hk i μ e1) (c_M_trace hk i μ e2) ?_ (show D ≤ _ by omega) h.up
  unfold traceS
  rw [e1]
  by_cases hi : 0 ≤ i ∧ i < nI k
  · obtain ⟨a, ha, rfl⟩ := fN (by omega) hi
    rw [if_pos hi, if_pos hi, nI_clamp (by omega)]
    exact (hr a ha).symm
  · rw [if_neg hi, if_neg hi]
theorem op_many {m n D s : Nat} {μ : Me} (hD : D ≤ 108 * s) (h : RRx m n D s μ) (w : Int32) : OpI m_S_many 0 m_M_many 0 [.int w] μ s := by
  refine opI (c_S_many w μ) (c_M_many w μ) ?_ (show D ≤ _ by omega) h.up
  obtain ⟨k, hk, ⟨e1, e2⟩, -⟩ := h.2.2.2.2.2.2.2
  obtain ⟨n1, hn, ⟨e3, e4⟩, -⟩ := h.2.2.2.2.1
  obtain ⟨u, N, a, b⟩ := h.2.2.2.1
  unfold manyS
  rw [h.sc.cls, h.sc.ref, show μ.1 4 3 = nI n from SRx.ln h.sc, show μ.1 82 18 = nI n from SRx.im h.sc, e1, e2, e3, e4, a.1, b.1]
theorem op_number {m n D s : Nat} {μ : Me} (hD : D ≤ 108 * s) (h : RRx m n D s μ) (t k i : Int32) : OpI m_S_number 2 m_M_number 2 [.int t, .int k, .int i] μ s := by
  by_cases hP : (0 ≤ t ∧ t < 4) ∧ 0 ≤ k ∧ k ≤ 3
  · obtain ⟨j, hj, rfl⟩ := f4 hP.1
    obtain ⟨e1, e2, ln, hl, ⟨e3, e4⟩, hx⟩ := h.2.2.2.2.2.1 j hj
    refine opI (c_S_number hj hl k i hP.2 μ e3) (c_M_number hj hl k i hP.2 μ (e2.imp_right (fun z => z.1)) e4) ?_ (show D ≤ _ by omega) h.up
    unfold numS
    rw [e1]
    by_cases hi : 0 ≤ i ∧ i < nI ln
    · obtain ⟨a, ha, rfl⟩ := fN (by omega) hi
      rw [if_pos hi, if_pos hi, nI_clamp (by omega), hx a ha]
    · rw [if_neg hi, if_neg hi]
  · exact opI (c_S_number_bad i hP μ) (c_M_number_bad i hP μ) rfl (show D ≤ _ by omega) h.up
