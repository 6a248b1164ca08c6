/-! the other pieces, one by one -/
def Sm2 (P : Nat → Prop) (J : Nat) (μ μ' : Me) : Prop := (∀ c, ¬ scr c → ¬ P c → μ'.1 c = μ.1 c) ∧ (∀ j, ¬ scj j → j ≠ J → μ'.1 82 j = μ.1 82 j) ∧ (∀ i, i < 442 → μ'.1 83 i = μ.1 83 i) ∧ ∀ c, c ≠ 82 → ¬ P c → μ'.2 c = μ.2 c
def pR (c : Nat) : Prop := c = 62 ∨ c = 63 ∨ c = 91
theorem RRx.setR {m n D s : Nat} {μ μ' : Me} (h : RRx m n D s μ) (k : Sm2 pR 23 μ μ') (hX : RWS μ') : RRx m n D s μ' := by
  obtain ⟨k1, k2, k3, k4⟩ := k
  obtain ⟨h1, h2, h3, h4, h5, h6, h7, h8⟩ := h
  exact ⟨h1.fr (k2 1 (nscj (by omega)) (by decide)) (k1 85 (nscr (by omega)) (by unfold pR; omega)),
    h2.fr (fun c hc => k1 c (nscr (by omega)) (by unfold pR; omega)) k3 (k1 84 (nscr (by omega)) (by unfold pR; omega)) (k1 89 (nscr (by omega)) (by unfold pR; omega)) (k2 4 (nscj (by omega)) (by decide)) (k2 18 (nscj (by omega)) (by decide)),
    h3.fr (k1 0 (nscr (by omega)) (by unfold pR; omega)) (fun c hc => k1 c (nscr (by omega)) (by unfold pR; omega)) (k1 100 (nscr (by omega)) (by unfold pR; omega)) (k2 37 (nscj (by omega)) (by decide)),
    h4.fr (by rw [k1 47 (nscr (by omega)) (by unfold pR; omega)]) (k1 48 (nscr (by omega)) (by unfold pR; omega)) (k2 11 (nscj (by omega)) (by decide)) (k1 88 (nscr (by omega)) (by unfold pR; omega)),
    hX,
    h6.fr (fun c hc => ⟨k1 c (nscr (by omega)) (by unfold pR; omega), k4 c (by omega) (by unfold pR; omega)⟩) (k1 93 (nscr (by omega)) (by unfold pR; omega)) (k1 94 (nscr (by omega)) (by unfold pR; omega)) (k4 95 (by decide) (by unfold pR; omega)),
    h7.fr (fun c hc => k1 c (nscr (by omega)) (by unfold pR; omega)) (k1 96 (nscr (by omega)) (by unfold pR; omega)) (k1 97 (nscr (by omega)) (by unfold pR; omega)) (k1 98 (nscr (by omega)) (by unfold pR; omega)),
    h8.fr (by rw [k1 68 (nscr (by omega)) (by unfold pR; omega)]) (k1 69 (nscr (by omega)) (by unfold pR; omega)) (k2 35 (nscj (by omega)) (by decide)) (k1 99 (nscr (by omega)) (by unfold pR; omega))⟩
def pT (c : Nat) : Prop := c = 47 ∨ c = 48 ∨ c = 88
theorem RRx.setT {m n D s : Nat} {μ μ' : Me} (h : RRx m n D s μ) (k : Sm2 pT 11 μ μ') (hX : TP μ') : RRx m n D s μ' := by
  obtain ⟨k1, k2, k3, k4⟩ := k
  obtain ⟨h1, h2, h3, h4, h5, h6, h7, h8⟩ := h
  exact ⟨h1.fr (k2 1 (nscj (by omega)) (by decide)) (k1 85 (nscr (by omega)) (by unfold pT; omega)),
    h2.fr (fun c hc => k1 c (nscr (by omega)) (by unfold pT; omega)) k3 (k1 84 (nscr (by omega)) (by unfold pT; omega)) (k1 89 (nscr (by omega)) (by unfold pT; omega)) (k2 4 (nscj (by omega)) (by decide)) (k2 18 (nscj (by omega)) (by decide)),
    h3.fr (k1 0 (nscr (by omega)) (by unfold pT; omega)) (fun c hc => k1 c (nscr (by omega)) (by unfold pT; omega)) (k1 100 (nscr (by omega)) (by unfold pT; omega)) (k2 37 (nscj (by omega)) (by decide)),
    hX,
    h5.fr (k1 62 (nscr (by omega)) (by unfold pT; omega)) (k1 63 (nscr (by omega)) (by unfold pT; omega)) (k2 23 (nscj (by omega)) (by decide)) (k1 91 (nscr (by omega)) (by unfold pT; omega)),
    h6.fr (fun c hc => ⟨k1 c (nscr (by omega)) (by unfold pT; omega), k4 c (by omega) (by unfold pT; omega)⟩) (k1 93 (nscr (by omega)) (by unfold pT; omega)) (k1 94 (nscr (by omega)) (by unfold pT; omega)) (k4 95 (by decide) (by unfold pT; omega)),
    h7.fr (fun c hc => k1 c (nscr (by omega)) (by unfold pT; omega)) (k1 96 (nscr (by omega)) (by unfold pT; omega)) (k1 97 (nscr (by omega)) (by unfold pT; omega)) (k1 98 (nscr (by omega)) (by unfold pT; omega)),
    h8.fr (by rw [k1 68 (nscr (by omega)) (by unfold pT; omega)]) (k1 69 (nscr (by omega)) (by unfold pT; omega)) (k2 35 (nscj (by omega)) (by decide)) (k1 99 (nscr (by omega)) (by unfold pT; omega))⟩
def pH (c : Nat) : Prop := (70 ≤ c ∧ c < 78) ∨ c = 93 ∨ c = 94 ∨ c = 95
theorem RRx.setH {m n D s : Nat} {μ μ' : Me} (h : RRx m n D s μ) (k : Sm2 pH 1000 μ μ') (hX : SHT μ') : RRx m n D s μ' := by
  obtain ⟨k1, k2, k3, k4⟩ := k
  obtain ⟨h1, h2, h3, h4, h5, h6, h7, h8⟩ := h
  exact ⟨h1.fr (k2 1 (nscj (by omega)) (by decide)) (k1 85 (nscr (by omega)) (by unfold pH; omega)),
    h2.fr (fun c hc => k1 c (nscr (by omega)) (by unfold pH; omega)) k3 (k1 84 (nscr (by omega)) (by unfold pH; omega)) (k1 89 (nscr (by omega)) (by unfold pH; omega)) (k2 4 (nscj (by omega)) (by decide)) (k2 18 (nscj (by omega)) (by decide)),
    h3.fr (k1 0 (nscr (by omega)) (by unfold pH; omega)) (fun c hc => k1 c (nscr (by omega)) (by unfold pH; omega)) (k1 100 (nscr (by omega)) (by unfold pH; omega)) (k2 37 (nscj (by omega)) (by decide)),
    h4.fr (by rw [k1 47 (nscr (by omega)) (by unfold pH; omega)]) (k1 48 (nscr (by omega)) (by unfold pH; omega)) (k2 11 (nscj (by omega)) (by decide)) (k1 88 (nscr (by omega)) (by unfold pH; omega)),
    h5.fr (k1 62 (nscr (by omega)) (by unfold pH; omega)) (k1 63 (nscr (by omega)) (by unfold pH; omega)) (k2 23 (nscj (by omega)) (by decide)) (k1 91 (nscr (by omega)) (by unfold pH; omega)),
    hX,
    h7.fr (fun c hc => k1 c (nscr (by omega)) (by unfold pH; omega)) (k1 96 (nscr (by omega)) (by unfold pH; omega)) (k1 97 (nscr (by omega)) (by unfold pH; omega)) (k1 98 (nscr (by omega)) (by unfold pH; omega)),
    h8.fr (by rw [k1 68 (nscr (by omega)) (by unfold pH; omega)]) (k1 69 (nscr (by omega)) (by unfold pH; omega)) (k2 35 (nscj (by omega)) (by decide)) (k1 99 (nscr (by omega)) (by unfold pH; omega))⟩
def pF (c : Nat) : Prop := (78 ≤ c ∧ c < 82) ∨ c = 96 ∨ c = 97 ∨ c = 98
theorem RRx.setF {m n D s : Nat} {μ μ' : Me} (h : RRx m n D s μ) (k : Sm2 pF 1000 μ μ') (hX : SHF μ') : RRx m n D s μ' := by
  obtain ⟨k1, k2, k3, k4⟩ := k
  obtain ⟨h1, h2, h3, h4, h5, h6, h7, h8⟩ := h
  exact ⟨h1.fr (k2 1 (nscj (by omega)) (by decide)) (k1 85 (nscr (by omega)) (by unfold pF; omega)),
    h2.fr (fun c hc => k1 c (nscr (by omega)) (by unfold pF; omega)) k3 (k1 84 (nscr (by omega)) (by unfold pF; omega)) (k1 89 (nscr (by omega)) (by unfold pF; omega)) (k2 4 (nscj (by omega)) (by decide)) (k2 18 (nscj (by omega)) (by decide)),
    h3.fr (k1 0 (nscr (by omega)) (by unfold pF; omega)) (fun c hc => k1 c (nscr (by omega)) (by unfold pF; omega)) (k1 100 (nscr (by omega)) (by unfold pF; omega)) (k2 37 (nscj (by omega)) (by decide)),
    h4.fr (by rw [k1 47 (nscr (by omega)) (by unfold pF; omega)]) (k1 48 (nscr (by omega)) (by unfold pF; omega)) (k2 11 (nscj (by omega)) (by decide)) (k1 88 (nscr (by omega)) (by unfold pF; omega)),
    h5.fr (k1 62 (nscr (by omega)) (by unfold pF; omega)) (k1 63 (nscr (by omega)) (by unfold pF; omega)) (k2 23 (nscj (by omega)) (by decide)) (k1 91 (nscr (by omega)) (by unfold pF; omega)),
    h6.fr (fun c hc => ⟨k1 c (nscr (by omega)) (by unfold pF; omega), k4 c (by omega) (by unfold pF; omega)⟩) (k1 93 (nscr (by omega)) (by unfold pF; omega)) (k1 94 (nscr (by omega)) (by unfold pF; omega)) (k4 95 (by decide) (by unfold pF; omega)),
    hX,
    h8.fr (by rw [k1 68 (nscr (by omega)) (by unfold pF; omega)]) (k1 69 (nscr (by omega)) (by unfold pF; omega)) (k2 35 (nscj (by omega)) (by decide)) (k1 99 (nscr (by omega)) (by unfold pF; omega))⟩
def pD (c : Nat) : Prop := c = 68 ∨ c = 69 ∨ c = 99
theorem RRx.setD {m n D s : Nat} {μ μ' : Me} (h : RRx m n D s μ) (k : Sm2 pD 35 μ μ') (hX : DOE μ') : RRx m n D s μ' := by
  obtain ⟨k1, k2, k3, k4⟩ := k
  obtain ⟨h1, h2, h3, h4, h5, h6, h7, h8⟩ := h
  exact ⟨h1.fr (k2 1 (nscj (by omega)) (by decide)) (k1 85 (nscr (by omega)) (by unfold pD; omega)),
    h2.fr (fun c hc => k1 c (nscr (by omega)) (by unfold pD; omega)) k3 (k1 84 (nscr (by omega)) (by unfold pD; omega)) (k1 89 (nscr (by omega)) (by unfold pD; omega)) (k2 4 (nscj (by omega)) (by decide)) (k2 18 (nscj (by omega)) (by decide)),
    h3.fr (k1 0 (nscr (by omega)) (by unfold pD; omega)) (fun c hc => k1 c (nscr (by omega)) (by unfold pD; omega)) (k1 100 (nscr (by omega)) (by unfold pD; omega)) (k2 37 (nscj (by omega)) (by decide)),
    h4.fr (by rw [k1 47 (nscr (by omega)) (by unfold pD; omega)]) (k1 48 (nscr (by omega)) (by unfold pD; omega)) (k2 11 (nscj (by omega)) (by decide)) (k1 88 (nscr (by omega)) (by unfold pD; omega)),
    h5.fr (k1 62 (nscr (by omega)) (by unfold pD; omega)) (k1 63 (nscr (by omega)) (by unfold pD; omega)) (k2 23 (nscj (by omega)) (by decide)) (k1 91 (nscr (by omega)) (by unfold pD; omega)),
    h6.fr (fun c hc => ⟨k1 c (nscr (by omega)) (by unfold pD; omega), k4 c (by omega) (by unfold pD; omega)⟩) (k1 93 (nscr (by omega)) (by unfold pD; omega)) (k1 94 (nscr (by omega)) (by unfold pD; omega)) (k4 95 (by decide) (by unfold pD; omega)),
    h7.fr (fun c hc => k1 c (nscr (by omega)) (by unfold pD; omega)) (k1 96 (nscr (by omega)) (by unfold pD; omega)) (k1 97 (nscr (by omega)) (by unfold pD; omega)) (k1 98 (nscr (by omega)) (by unfold pD; omega)),
    hX⟩
def pK (c : Nat) : Prop := c = 0 ∨ (24 ≤ c ∧ c < 47) ∨ c = 100
theorem RRx.setK {m n D s : Nat} {μ μ' : Me} (h : RRx m n D s μ) (k : Sm2 pK 37 μ μ') (hX : KP s μ') : RRx m n D s μ' := by
  obtain ⟨k1, k2, k3, k4⟩ := k
  obtain ⟨h1, h2, h3, h4, h5, h6, h7, h8⟩ := h
  exact ⟨h1.fr (k2 1 (nscj (by omega)) (by decide)) (k1 85 (nscr (by omega)) (by unfold pK; omega)),
    h2.fr (fun c hc => k1 c (nscr (by omega)) (by unfold pK; omega)) k3 (k1 84 (nscr (by omega)) (by unfold pK; omega)) (k1 89 (nscr (by omega)) (by unfold pK; omega)) (k2 4 (nscj (by omega)) (by decide)) (k2 18 (nscj (by omega)) (by decide)),
    hX,
    h4.fr (by rw [k1 47 (nscr (by omega)) (by unfold pK; omega)]) (k1 48 (nscr (by omega)) (by unfold pK; omega)) (k2 11 (nscj (by omega)) (by decide)) (k1 88 (nscr (by omega)) (by unfold pK; omega)),
    h5.fr (k1 62 (nscr (by omega)) (by unfold pK; omega)) (k1 63 (nscr (by omega)) (by unfold pK; omega)) (k2 23 (nscj (by omega)) (by decide)) (k1 91 (nscr (by omega)) (by unfold pK; omega)),
    h6.fr (fun c hc => ⟨k1 c (nscr (by omega)) (by unfold pK; omega), k4 c (by omega) (by unfold pK; omega)⟩) (k1 93 (nscr (by omega)) (by unfold pK; omega)) (k1 94 (nscr (by omega)) (by unfold pK; omega)) (k4 95 (by decide) (by unfold pK; omega)),
    h7.fr (fun c hc => k1 c (nscr (by omega)) (by unfold pK; omega)) (k1 96 (nscr (by omega)) (by unfold pK; omega)) (k1 97 (nscr (by omega)) (by unfold pK; omega)) (k1 98 (nscr (by omega)) (by unfold pK; omega)),
    h8.fr (by rw [k1 68 (nscr (by omega)) (by unfold pK; omega)]) (k1 69 (nscr (by omega)) (by unfold pK; omega)) (k2 35 (nscj (by omega)) (by decide)) (k1 99 (nscr (by omega)) (by unfold pK; omega))⟩
theorem op_alterRow {m n D s : Nat} {μ : Me} (hD : D ≤ 108 * s) (h : RRx m n D s μ) (i w v : Int32) : OpI m_S_alterRow 2 m_M_alterRow 2 [.int i, .int w, .int v] μ s := by
  obtain ⟨n1, hn, ⟨e1, e2⟩, hr⟩ := h.2.2.2.2.1
  by_cases hG : (0 ≤ i ∧ i < nI n1) ∧ 0 ≤ w ∧ w ≤ 2
  · obtain ⟨a, ha, rfl⟩ := fN (by omega) hG.1
    obtain ⟨k, hk, rfl⟩ := t3 hG.2
    have e3 : plcS (μ.1 62 1) (nI a) (nI k) = nI (3 * a + k) := by
      unfold plcS
      rw [e1, if_pos ⟨hG.1.1, hG.1.2, hG.2⟩, mul3, nI_add]
    refine opI (c_S_alterRow (k := 3 * a + k) (by omega) (nI a) (nI k) v μ e3) (c_M_alterRow hn ha hk v (uI μ 63 (3 * a + k) v) (by rw [uI_ne (by decide)]; exact e2)) ?_ (show D ≤ _ by omega) (h.up.setR ⟨fun c h1 h2 => ?_, fun j h1 h2 => ?_, fun i hi => ?_, fun _ _ _ => rfl⟩ ⟨n1, hn, ⟨?_, ?_⟩, fun x hx => ?_⟩)
    · rw [uI_ne (by decide)]
      exact (hr _ (by omega)).symm
    · unfold pR at h2
      rw [uI_ne (by omega), uI_ne (by omega)]
    · rw [uI_ne (by decide), uI_ne (by decide)]
    · rw [uI_ne (by decide), uI_ne (by decide)]
    · rw [uI_ne (by decide), uI_ne (by decide)]
      exact e1
    · rw [uI_ne (by decide), uI_ne (by decide)]
      exact e2
    · rw [uI_ne (by decide), uI_eq, uI_eq, uI_ne (by decide)]
      exact upd_cg (hr x hx)
  · have e3 : plcS (μ.1 62 1) i w < 0 := by
      unfold plcS
      rw [e1, if_neg (fun z => hG ⟨⟨z.1, z.2.1⟩, z.2.2⟩)]
      decide
    exact opI (c_S_alterRow_no i w v μ e3) (c_M_alterRow_no hn i w v μ e2 hG) rfl (show D ≤ _ by omega) h.up
theorem op_sheet {m n D s : Nat} {μ : Me} (hD : D ≤ 108 * s) (h : RRx m n D s μ) (t k c : Int32) : OpI m_S_sheet 2 m_M_sheet 2 [.int t, .int k, .int c] μ s := by
  by_cases hG : (0 ≤ t ∧ t < 4) ∧ -1 ≤ k ∧ k ≤ 3
  · obtain ⟨j, hj, rfl⟩ := f4 hG.1
    have hT := h.2.2.2.2.2.1
    by_cases hk : k = -1
    · subst hk
      refine opI (c_S_sheet_lose hj c μ) (c_M_sheet_lose hj c _) rfl (show D ≤ _ by omega) (h.up.setH ⟨fun c h1 h2 => ?_, fun j' h1 h2 => ?_, fun i hi => ?_, fun c h1 h2 => ?_⟩ (fun x hx => ?_))
      · unfold pH at h2
        show (uI (uI (uI (uI μ (70 + 2 * j) 0 (-1)) (70 + 2 * j) 1 0) 93 j (-1)) 94 j 0).1 c = _
        rw [uI_ne (by omega), uI_ne (by omega), uI_ne (by omega), uI_ne (by omega)]
      · show (uI (uI (uI (uI μ (70 + 2 * j) 0 (-1)) (70 + 2 * j) 1 0) 93 j (-1)) 94 j 0).1 82 j' = _
        rw [uI_ne (by omega), uI_ne (by omega), uI_ne (by omega), uI_ne (by omega)]
      · show (uI (uI (uI (uI μ (70 + 2 * j) 0 (-1)) (70 + 2 * j) 1 0) 93 j (-1)) 94 j 0).1 83 i = _
        rw [uI_ne (by omega), uI_ne (by omega), uI_ne (by omega), uI_ne (by omega)]
      · unfold pH at h2
        rw [rL_ne (by omega)]
        rfl
      · obtain ⟨f1, f2, ln, hl, ⟨f3, f4'⟩, f5⟩ := hT x hx
        show (uI (uI (uI (uI μ (70 + 2 * j) 0 (-1)) (70 + 2 * j) 1 0) 93 j (-1)) 94 j 0).1 (70 + 2 * x) 0 = (uI (uI (uI (uI μ (70 + 2 * j) 0 (-1)) (70 + 2 * j) 1 0) 93 j (-1)) 94 j 0).1 93 x ∧ ((uI (uI (uI (uI μ (70 + 2 * j) 0 (-1)) (70 + 2 * j) 1 0) 93 j (-1)) 94 j 0).1 93 x = -1 ∨ (0 ≤ (uI (uI (uI (uI μ (70 + 2 * j) 0 (-1)) (70 + 2 * j) 1 0) 93 j (-1)) 94 j 0).1 93 x ∧ (uI (uI (uI (uI μ (70 + 2 * j) 0 (-1)) (70 + 2 * j) 1 0) 93 j (-1)) 94 j 0).1 93 x ≤ 3)) ∧ ∃ ln, ln ≤ 40 ∧ ((uI (uI (uI (uI μ (70 + 2 * j) 0 (-1)) (70 + 2 * j) 1 0) 93 j (-1)) 94 j 0).1 (70 + 2 * x) 1 = nI ln ∧ (uI (uI (uI (uI μ (70 + 2 * j) 0 (-1)) (70 + 2 * j) 1 0) 93 j (-1)) 94 j 0).1 94 x = nI ln) ∧ ∀ y, y < ln → _ = _
        by_cases e : x = j
        · subst e
          refine ⟨?_, Or.inl ?_, 0, by omega, ⟨?_, ?_⟩, fun y hy => absurd hy (by omega)⟩
          · rw [uI_ne (by omega), uI_ne (by omega), uI_off (by decide), uI_at, uI_ne (by decide), uI_at]
          · rw [uI_ne (by decide), uI_at]
          · rw [uI_ne (by omega), uI_ne (by omega), uI_at]; rfl
          · rw [uI_at]; rfl
        · have g1 : ∀ y, (uI (uI (uI (uI μ (70 + 2 * j) 0 (-1)) (70 + 2 * j) 1 0) 93 j (-1)) 94 j 0).1 (70 + 2 * x) y = μ.1 (70 + 2 * x) y := fun y => by rw [uI_ne (by omega), uI_ne (by omega), uI_ne (by omega), uI_ne (by omega)]
          have g2 : (uI (uI (uI (uI μ (70 + 2 * j) 0 (-1)) (70 + 2 * j) 1 0) 93 j (-1)) 94 j 0).1 93 x = μ.1 93 x := by rw [uI_ne (by decide), uI_off e, uI_ne (by omega), uI_ne (by omega)]
          have g3 : (uI (uI (uI (uI μ (70 + 2 * j) 0 (-1)) (70 + 2 * j) 1 0) 93 j (-1)) 94 j 0).1 94 x = μ.1 94 x := by rw [uI_off e, uI_ne (by omega), uI_ne (by omega), uI_ne (by omega)]
          rw [g1, g1, g2, g3]
          refine ⟨f1, f2, ln, hl, ⟨f3, f4'⟩, fun y hy => ?_⟩
          rw [rL_ne (by omega), rL_eq, zG, if_neg (by omega)]
          exact f5 y hy
    · have hk0 : 0 ≤ k ∧ k ≤ 3 := ⟨by have := hG.2.1; grind, hG.2.2⟩
      have c1 := c_S_sheet_else hj k c hk0 μ
      by_cases hb : 40 < c
      · exact opI (Ct.mono (fun r μ' z => z.1 hb) c1) (c_M_sheet_big hj k c hk0 hb μ) rfl (show D ≤ _ by omega) h.up
      · by_cases hn : c < 0
        · exact opI (Ct.mono (fun r μ' z => z.2.1 hb hn) c1) (c_M_sheet_neg hj k c hk0 hn μ) rfl (show D ≤ _ by omega) h.up
        · have hc : 0 ≤ c ∧ c ≤ 40 := ⟨Int32.not_lt.mp hn, Int32.not_lt.mp hb⟩
          obtain ⟨c, hc', rfl⟩ := fNl (N := 40) (by decide) hc
          have c1 := Ct.mono (fun r μ' z => z.2.2 hb hn) c1
          generalize eν : uI (uI μ (70 + 2 * j) 0 k) (70 + 2 * j) 1 (nI c) = ν at c1
          have a1 : ∀ x, x ≠ 70 + 2 * j → ν.1 x = μ.1 x := fun x hx => by rw [← eν, uI_ne hx, uI_ne hx]
          refine opI c1 (c_M_sheet hj k (nI c) hk0 hc _) rfl (show D ≤ _ by omega) (h.up.setH ⟨fun x h1 h2 => ?_, fun x h1 h2 => ?_, fun i hi => ?_, fun x h1 h2 => ?_⟩ (fun x hx => ?_))
          · unfold pH at h2
            show (uI (uI ν 93 j k) 94 j (nI c)).1 x = _
            rw [uI_ne (by omega), uI_ne (by omega)]
            exact a1 x (by omega)
          · show (uI (uI ν 93 j k) 94 j (nI c)).1 82 x = _
            rw [uI_ne (by omega), uI_ne (by omega)]
            exact congrFun (a1 82 (by omega)) x
          · show (uI (uI ν 93 j k) 94 j (nI c)).1 83 i = _
            rw [uI_ne (by omega), uI_ne (by omega)]
            exact congrFun (a1 83 (by omega)) i
          · unfold pH at h2
            rw [rL_ne (by omega), uI_2, uI_2, rL_ne (by omega), ← eν]
            rfl
          · obtain ⟨f1, f2, ln, hl, ⟨f3, f4'⟩, f5⟩ := hT x hx
            have b0 : ∀ y, (rL (uI (uI (rL ν (70 + 2 * j + 1) (cutL 40 (fun _ => 0) (μ.2 (70 + 2 * j + 1)))) 93 j k) 94 j (nI c)) 95 (zG ((rL ν (70 + 2 * j + 1) (cutL 40 (fun _ => 0) (μ.2 (70 + 2 * j + 1)))).2 95) j 40)).1 (70 + 2 * x) y = ν.1 (70 + 2 * x) y := fun y => by
              show (uI (uI ν 93 j k) 94 j (nI c)).1 (70 + 2 * x) y = _
              rw [uI_ne (by omega), uI_ne (by omega)]
            have b1 : (rL (uI (uI (rL ν (70 + 2 * j + 1) (cutL 40 (fun _ => 0) (μ.2 (70 + 2 * j + 1)))) 93 j k) 94 j (nI c)) 95 (zG ((rL ν (70 + 2 * j + 1) (cutL 40 (fun _ => 0) (μ.2 (70 + 2 * j + 1)))).2 95) j 40)).1 93 x = upd (μ.1 93) j k x := by
              show (uI (uI ν 93 j k) 94 j (nI c)).1 93 x = _
              rw [uI_ne (by decide), uI_eq]
              exact upd_cg (congrFun (a1 93 (by omega)) x)
            have b2 : (rL (uI (uI (rL ν (70 + 2 * j + 1) (cutL 40 (fun _ => 0) (μ.2 (70 + 2 * j + 1)))) 93 j k) 94 j (nI c)) 95 (zG ((rL ν (70 + 2 * j + 1) (cutL 40 (fun _ => 0) (μ.2 (70 + 2 * j + 1)))).2 95) j 40)).1 94 x = upd (μ.1 94) j (nI c) x := by
              show (uI (uI ν 93 j k) 94 j (nI c)).1 94 x = _
              rw [uI_eq, uI_ne (by decide)]
              exact upd_cg (congrFun (a1 94 (by omega)) x)
            rw [b0, b0, b1, b2]
            by_cases e : x = j
            · subst e
              rw [pk_us, pk_us]
              refine ⟨by rw [← eν, uI_off (by decide), uI_at], Or.inr hk0, c, hc', ⟨by rw [← eν, uI_at], rfl⟩, fun y hy => ?_⟩
              rw [rL_ne (by omega), rL_eq, uI_2, uI_2, rL_eq, zG, if_pos (by omega), cutL, if_pos (by omega)]
            · rw [pk_un e, pk_un e, a1 _ (by omega)]
              refine ⟨f1, f2, ln, hl, ⟨f3, f4'⟩, fun y hy => ?_⟩
              rw [rL_ne (by omega), rL_eq, uI_2, uI_2, rL_ne (by omega), rL_ne (by omega), zG, if_neg (by omega), ← eν]
              exact f5 y hy
  · exact opI (c_S_sheet_bad hG μ) (c_M_sheet_bad hG μ) rfl (show D ≤ _ by omega) h.up
theorem op_put {m n D s : Nat} {μ : Me} (hD : D ≤ 108 * s) (h : RRx m n D s μ) (t i v : Int32) : OpI m_S_put 2 m_M_put 2 [.int t, .int i, .int v] μ s := by
  by_cases hG : 0 ≤ t ∧ t < 4
  · obtain ⟨j, hj, rfl⟩ := f4 hG
    have hT := h.2.2.2.2.2.1
    obtain ⟨e1, e2, ln, hl, ⟨e3, e4⟩, hx⟩ := hT j hj
    have c1 := c_S_put hj hl i v μ e3
    by_cases h1 : μ.1 93 j = -1
    · exact opI (Ct.mono (fun r μ' z => z.1 (by rw [e1]; exact h1)) c1) (c_M_put_none hj i v μ (by rw [h1]; decide)) rfl (show D ≤ _ by omega) h.up
    · have h0 : 0 ≤ μ.1 93 j := e2.elim (fun z => absurd z h1) (fun z => z.1)
      have h1' : ¬ μ.1 (70 + 2 * j) 0 = -1 := by rw [e1]; exact h1
      by_cases hi : 0 ≤ i ∧ i < nI ln
      · have c1 := Ct.mono (fun r μ' z => z.2.2 h1' hi) c1
        obtain ⟨a, ha, rfl⟩ := fN (by omega) hi
        rw [nI_clamp (by omega), e1] at c1
        refine opI c1 (c_M_put hj hl ha v (uL μ (70 + 2 * j + 1) a (narS (μ.1 93 j) v)) h0 e4) rfl (show D ≤ _ by omega) (h.up.setH ⟨fun _ _ _ => rfl, fun _ _ _ => rfl, fun _ _ => rfl, fun x h1 h2 => ?_⟩ (fun x hx' => ?_))
        · unfold pH at h2
          rw [uL_ne (by omega), uL_ne (by omega)]
        · obtain ⟨f1, f2, ln', hl', ⟨f3, f4'⟩, f5⟩ := hT x hx'
          refine ⟨f1, f2, ln', hl', ⟨f3, f4'⟩, fun y hy => ?_⟩
          show (uL (uL μ (70 + 2 * j + 1) a (narS (μ.1 93 j) v)) 95 (40 * j + a) (narS (μ.1 93 j) v)).2 (70 + 2 * x + 1) y = (uL (uL μ (70 + 2 * j + 1) a (narS (μ.1 93 j) v)) 95 (40 * j + a) (narS (μ.1 93 j) v)).2 95 (40 * x + y)
          rw [uL_ne (c' := 70 + 2 * x + 1) (by omega), uL_eq (c := 95), uL_ne (c' := 95) (by omega)]
          by_cases e : x = j
          · subst e
            rw [uL_eq]
            by_cases e2 : y = a
            · subst e2
              rw [pk_uLs, pk_uLs]
            · rw [pk_uLn e2, pk_uLn (by omega)]
              exact f5 y hy
          · rw [uL_ne (by omega), pk_uLn (by omega)]
            exact f5 y hy
      · exact opI (Ct.mono (fun r μ' z => z.2.1 h1' hi) c1) (c_M_put_out hj hl i v μ h0 e4 hi) rfl (show D ≤ _ by omega) h.up
  · exact opI (c_S_put_bad i v hG μ) (c_M_put_bad i v hG μ) rfl (show D ≤ _ by omega) h.up
