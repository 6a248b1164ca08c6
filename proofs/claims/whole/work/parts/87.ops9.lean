/-! lessons given, rows -/
theorem gstep_fr {m j : Nat} (hj : j < 4) (hm : m ≤ 4) (ν : Me) (so ab se : Int32) {c : Nat} (h1 : c ≠ 1) (h2 : c < 8 ∨ 24 ≤ c) (h3 : c ≠ 57) : (gstep m (8 + 4 * j) ν so ab se).1 c = ν.1 c := by
  unfold gstep
  by_cases h0 : so = 0
  · rw [if_pos h0, keepM, r3_ne (by omega) (by omega) (by omega), ansM_ne h3]
  · rw [if_neg h0]
    by_cases h4 : so = 1
    · rw [if_pos h4, uI_ne (by omega)]
    · rw [if_neg h4, uI_ne h1, restM_ne _ _ _ _ _ (fun _ _ => by omega)]
theorem restM_L {g : Int32} {k : Nat} {μ : Me} : ∀ i, (restM g k μ i).2 = μ.2
  | 0 => rfl
  | i + 1 => restM_L (g := g) (k := k) (μ := μ) i
theorem gstep_L {m c : Nat} {ν : Me} {so ab se : Int32} : (gstep m c ν so ab se).2 = ν.2 := by
  unfold gstep
  by_cases h0 : so = 0
  · rw [if_pos h0]; rfl
  · rw [if_neg h0]
    by_cases h4 : so = 1
    · rw [if_pos h4]; rfl
    · rw [if_neg h4, uI_2, restM_L]
theorem gv_fr {m j : Nat} (hj : j < 4) (hm : m ≤ 4) {so ab se : Nat → Int32} {μ : Me} {c : Nat} (h1 : c ≠ 1) (h2 : c < 8 ∨ 24 ≤ c) (h3 : c ≠ 57) : ∀ i, (gvF m (8 + 4 * j) so ab se μ i).1.1 c = μ.1 c
  | 0 => rfl
  | i + 1 => by
    rw [gvF]
    show (gstep m (8 + 4 * j) (gvF m (8 + 4 * j) so ab se μ i).1 (so i) (ab i) (se i)).1 c = _
    rw [gstep_fr hj hm _ _ _ _ h1 h2 h3, gv_fr hj hm h1 h2 h3 i]
theorem gv_L {m c : Nat} {so ab se : Nat → Int32} {μ : Me} : ∀ i, (gvF m c so ab se μ i).1.2 = μ.2
  | 0 => rfl
  | i + 1 => by
    rw [gvF]
    show (gstep m c (gvF m c so ab se μ i).1 (so i) (ab i) (se i)).2 = _
    rw [gstep_L, gv_L i]
theorem how_le {g W : Nat → Int32} {A l p : Nat} {t : Int32} : (fd g A l p t W).2.1 ≤ 1 ↔ ((fd g A l p t W).2.1 = 0 ∨ (fd g A l p t W).2.1 = 1) := by
  rcases fd_how (g := g) (A := A) (l := l) (p := p) (t := t) (w := W) with e | e | e | e
  · rw [e]; decide
  · rw [e]; decide
  · rw [e]; decide
  · rw [e]; decide
theorem IT.n {L : Nat → Int32} {i : Nat} (h : IT L i) : ∃ k, k < 36 ∧ L (3 * i + 1) = nI k ∧ (L (3 * i) = 0 ∨ L (3 * i) = 1 ∨ (L (3 * i) = 2 ∧ k ≤ 9)) := by
  rcases h with ⟨a, ⟨p, hp, e⟩, _⟩ | ⟨a, p, hp, e⟩ | ⟨a, p, hp, e⟩
  · exact ⟨p, hp, e, Or.inl a⟩
  · exact ⟨p, hp, e, Or.inr (Or.inl a)⟩
  · exact ⟨p, by omega, e, Or.inr (Or.inr ⟨a, hp⟩)⟩
theorem giv {m n D j : Nat} {μ : Me} (h : SC m n D μ) (hj : j < m) (hD : D < 10000) (q : Q4) : ∀ i, i ≤ n → ∃ E, E ≤ D + 9 * i ∧ SRx m n E (gvF m (8 + 4 * j) (μ.1 5) (μ.1 6) (μ.1 7) μ i).1.1 1 8 (gv2 0 j m (μ.1 84) (μ.1 89) (μ.1 83, q) i).1.1 (μ.1 84) (μ.1 89) (μ.1 82 4) (μ.1 82 18) ∧ (gvF m (8 + 4 * j) (μ.1 5) (μ.1 6) (μ.1 7) μ i).2 = (gv2 0 j m (μ.1 84) (μ.1 89) (μ.1 83, q) i).2
  | 0, _ => ⟨D, by omega, h, rfl⟩
  | i + 1, hi => by
    have hn := SRx.n12 h
    have hm := SRx.m4 h
    obtain ⟨E, hE, hS, hc⟩ := giv h hj hD q i (by omega)
    obtain ⟨⟨e1, e2, e3⟩, hI⟩ := SRx.ls h i (by omega)
    have e1' : μ.1 5 i = μ.1 89 (3 * i) := e1
    have e2' : μ.1 6 i = μ.1 89 (3 * i + 1) := e2
    have e3' : μ.1 7 i = μ.1 89 (3 * i + 2) := e3
    obtain ⟨k, hk, ek, hso⟩ := hI.n
    rw [gvF, gv2]
    show ∃ E', E' ≤ D + 9 * (i + 1) ∧ SRx m n E' (gstep m (8 + 4 * j) (gvF m (8 + 4 * j) (μ.1 5) (μ.1 6) (μ.1 7) μ i).1 (μ.1 5 i) (μ.1 6 i) (μ.1 7 i)).1 1 8 (dst 0 j m (μ.1 84) (μ.1 89) (gv2 0 j m (μ.1 84) (μ.1 89) (μ.1 83, q) i).1 i).1 (μ.1 84) (μ.1 89) (μ.1 82 4) (μ.1 82 18) ∧ _ = _
    generalize gvF m (8 + 4 * j) (μ.1 5) (μ.1 6) (μ.1 7) μ i = V at hS hc ⊢
    generalize gv2 0 j m (μ.1 84) (μ.1 89) (μ.1 83, q) i = T at hS hc ⊢
    unfold gstep dst
    rw [e1', e2', e3', ek, nI_clamp (show k < 2 ^ 31 by omega)]
    rcases hso with a | a | ⟨a, hk9⟩
    · have eF : cF V.1 (8 + 4 * j) (μ.1 89 (3 * i + 2)) k = fd T.1.1 0 j k (μ.1 89 (3 * i + 2)) (μ.1 84) := by
        unfold cF
        exact (hS.hd j hj).find hk (hS.ww 1 (by decide)) (hS.ww 2 (by decide))
      rw [eF, hS.dM, if_pos a, if_pos a]
      refine ⟨E, by omega, hS.ask hj hk (nI_pos' (by omega)) _ _, ?_⟩
      refine ifc ?_ (by rw [hc]) hc
      rw [show prodB (fd T.1.1 0 j k (μ.1 89 (3 * i + 2)) (μ.1 84)) = true ↔ ((fd T.1.1 0 j k (μ.1 89 (3 * i + 2)) (μ.1 84)).2.1 = 0 ∨ (fd T.1.1 0 j k (μ.1 89 (3 * i + 2)) (μ.1 84)).2.1 = 1) from decide_eq_true_iff]
      exact and_congr_right (fun _ => how_le.symm)
    · have n0 : ¬ μ.1 89 (3 * i) = 0 := by rw [a]; decide
      rw [if_neg n0, if_neg n0, if_pos a, if_pos a]
      refine ⟨E, by omega, hS.told hj hk, ?_⟩
      rw [if_neg (fun z => n0 z.1), if_neg (fun z => n0 z.1)]
      exact hc
    · have n0 : ¬ μ.1 89 (3 * i) = 0 := by rw [a]; decide
      have n1 : ¬ μ.1 89 (3 * i) = 1 := by rw [a]; decide
      rw [if_neg n0, if_neg n0, if_neg n1, if_neg n1]
      refine ⟨E + k, by omega, hS.rest k, ?_⟩
      rw [if_neg (fun z => n0 z.1), if_neg (fun z => n0 z.1)]
      exact hc
theorem op_give {m n D s : Nat} {μ : Me} (hD : D ≤ 108 * s) (h : RRx m n D s μ) (hs : s ≤ 64) (l : Int32) : OpI m_S_give 5 m_M_give 8 [.int l] μ s := by
  have hm := SRx.m4 h.sc
  have hc := h.sc.cls
  by_cases hG : 0 ≤ l ∧ l < nI m
  · obtain ⟨j, hj, rfl⟩ := lr_yes hm hG
    have hn := SRx.n12 h.sc
    obtain ⟨E, hE, hS, hcnt⟩ := giv h.sc hj (by omega) (q0 μ) n (Nat.le_refl n)
    have c1 := c_S_give hm hj hn μ hc (SRx.ln h.sc) h.sc.rt h.sc.lsok
    have gf : ∀ c, c ≠ 1 → c < 8 ∨ 24 ≤ c → c ≠ 57 → (gvF m (8 + 4 * j) (μ.1 5) (μ.1 6) (μ.1 7) μ n).1.1 c = μ.1 c := fun c h1 h2 h3 => gv_fr (by omega) hm h1 h2 h3 n
    have gl : (gvF m (8 + 4 * j) (μ.1 5) (μ.1 6) (μ.1 7) μ n).1.2 = μ.2 := gv_L n
    generalize gvF m (8 + 4 * j) (μ.1 5) (μ.1 6) (μ.1 7) μ n = V at c1 hS hcnt gf gl
    have e82 := gf 82 (by decide) (by omega) (by decide)
    have e83 := gf 83 (by decide) (by omega) (by decide)
    have e84 := gf 84 (by decide) (by omega) (by decide)
    have e89 := gf 89 (by decide) (by omega) (by decide)
    have c2 := c_M_give hm hj hn V.1 (by rw [e82]; exact h.at0) (by rw [e82]; exact SRx.im h.sc) (by rw [e83]; exact h.sc.ok) (by rw [e84]; exact SRx.w50 h.sc) (by rw [e89]; exact h.sc.it)
    rw [e83, e84, e89, show q0 V.1 = q0 μ by unfold q0; rw [e82]] at c2
    generalize gv2 0 j m (μ.1 84) (μ.1 89) (μ.1 83, q0 μ) n = T at c2 hS hcnt
    refine opI c1 c2 (by rw [hcnt]) (show E ≤ _ by omega) (h.up.sch (m' := m) (n' := n) ⟨fun c h1 h2 => ?_, fun i h1 h2 h3 => ?_, fun c _ => ?_⟩ (SC.of (hS.mem (fun c hc' => dsM_ne (by omega) (by omega))) dsM_83 ?_ ?_ ?_ ?_))
    · unfold scr at h1
      unfold schc at h2
      rw [dsM_ne (by omega) (by omega), gf c (by omega) (by omega) (by omega)]
    · unfold scj at h1
      rw [dsM_o (by omega) (by omega) (by omega), e82]
    · show V.1.2 c = μ.2 c
      rw [gl]
    · rw [dsM_ne (by decide) (by decide), e84]
    · rw [dsM_ne (by decide) (by decide), e89]
    · rw [dsM_o (by decide) (by decide) (by decide), e82]
    · rw [dsM_o (by decide) (by decide) (by decide), e82]
  · exact opI (c_S_give_no l μ hc hG) (c_M_give_no hm l μ h.sc.ref hG) rfl (show D ≤ _ by omega) h.up
/-- a lesson as if it were given: cells that are written -/
theorem fstep_fr {rc : Nat} (w : Me × Int32 × Nat) (so ab se : Int32) {c : Nat} (h : c < 53 ∨ 57 < c) (h1 : c ≠ rc) (h2 : c ≠ rc + 1) : (fstep rc w so ab se).1.1 c = w.1.1 c := by
  unfold fstep
  by_cases h0 : so = 0
  · rw [if_pos h0]
    show (rowM rc _ _ _ _ _).1 c = _
    rw [rowM_ne h1 h2, keepM, r3_ne (by omega) (by omega) (by omega), ansM_ne (by omega)]
  · rw [if_neg h0]
    by_cases h4 : so = 1
    · rw [if_pos h4]
      exact uI_ne (by omega)
    · rw [if_neg h4]
      exact rI_ne (by omega)
theorem fstep_L {rc : Nat} {w : Me × Int32 × Nat} {so ab se : Int32} : (fstep rc w so ab se).1.2 = w.1.2 := by
  unfold fstep
  by_cases h0 : so = 0
  · rw [if_pos h0]; rfl
  · rw [if_neg h0]
    by_cases h4 : so = 1
    · rw [if_pos h4]; rfl
    · rw [if_neg h4]; rfl
theorem f_fr {rc : Nat} {so ab se : Nat → Int32} {w0 : Me × Int32 × Nat} {c : Nat} (h : c < 53 ∨ 57 < c) (h1 : c ≠ rc) (h2 : c ≠ rc + 1) : ∀ i, (fF rc so ab se w0 i).1.1 c = w0.1.1 c
  | 0 => rfl
  | i + 1 => by rw [fF, fstep_fr _ _ _ _ h h1 h2, f_fr h h1 h2 i]
theorem f_L {rc : Nat} {so ab se : Nat → Int32} {w0 : Me × Int32 × Nat} : ∀ i, (fF rc so ab se w0 i).1.2 = w0.1.2
  | 0 => rfl
  | i + 1 => by rw [fF, fstep_L, f_L i]
theorem fill_fr {rc c0 k : Nat} {μ : Me} {c : Nat} (h : c < 53 ∨ 57 < c) (h1 : c ≠ rc) (h2 : c ≠ rc + 1) : (fillM rc c0 k μ).1.1 c = μ.1 c := by
  rw [fillM, f_fr h h1 h2]
  show (uI (spareM μ c0) rc 1 0).1 c = _
  rw [uI_ne h1, spare_lo (by omega)]
theorem fill_L {rc c0 k : Nat} {μ : Me} : (fillM rc c0 k μ).1.2 = μ.2 := by
  rw [fillM, f_L]
  rfl
theorem dst_lo {A l m : Nat} {W L : Nat → Int32} {s : (Nat → Int32) × Q4} {i x : Nat} (h : x < A) : (dst A l m W L s i).1 x = s.1 x := by
  unfold dst
  by_cases h0 : L (3 * i) = 0
  · rw [if_pos h0]
    show akG _ _ _ _ _ x = _
    rw [akG, ls3_out (by omega)]
  · rw [if_neg h0]
    by_cases h4 : L (3 * i) = 1
    · rw [if_pos h4]
      show upd _ _ _ x = _
      rw [pk_un (by omega)]
    · rw [if_neg h4]
      exact nN_lo h _
theorem fr2_lo {A l m : Nat} {W L : Nat → Int32} {T : FR} {x : Nat} (h : x < A) : ∀ i, (fr2 A l m W L T i).1.1 x = T.1.1 x
  | 0 => rfl
  | i + 1 => by
    rw [fr2]
    show (dst A l m W L (fr2 A l m W L T i).1 i).1 x = _
    rw [dst_lo h, fr2_lo h i]
theorem row3_congr {f f' : Nat → Int32} {k : Nat} {a b e : Int32} (h : ∀ x, x < 3 * k → f x = f' x) : ∀ x, x < 3 * (k + 1) → upd (upd (upd f (3 * k) a) (3 * k + 1) b) (3 * k + 2) e x = upd (upd (upd f' (3 * k) a) (3 * k + 1) b) (3 * k + 2) e x := fun x hx => by
  by_cases e2 : x = 3 * k + 2
  · subst e2
    rw [pk_us, pk_us]
  · rw [pk_un e2, pk_un e2]
    by_cases e1 : x = 3 * k + 1
    · subst e1
      rw [pk_us, pk_us]
    · rw [pk_un e1, pk_un e1]
      by_cases e0 : x = 3 * k
      · subst e0
        rw [pk_us, pk_us]
      · rw [pk_un e0, pk_un e0]
        exact h x (by omega)
theorem rowM_c {rc k : Nat} {ν : Me} {a b e : Int32} : (rowM rc ν k a b e).1 (rc + 1) = upd (upd (upd (ν.1 (rc + 1)) (3 * k) a) (3 * k + 1) b) (3 * k + 2) e := by
  rw [rowM, uI_ne (by omega), uI_eq, uI_eq, uI_eq]
theorem fil {m n D j rc : Nat} {μ : Me} (hr : isRc rc) (h : SC m n D μ) (hj : j < m) (hD : D < 10000) : ∀ i, i ≤ n → ∃ E, E ≤ D + 9 * i ∧ ((fillM rc (8 + 4 * j) i μ).2.1 = nI E ∧ (fr2 442 j m (μ.1 84) (μ.1 89) (T0 μ) i).1.1 (442 + 1) = nI E) ∧ Hd (fillM rc (8 + 4 * j) i μ).1.1 53 (fr2 442 j m (μ.1 84) (μ.1 89) (T0 μ) i).1.1 442 j ∧ (fillM rc (8 + 4 * j) i μ).2.2 = (fr2 442 j m (μ.1 84) (μ.1 89) (T0 μ) i).2.2 ∧ ∀ x, x < 3 * (fillM rc (8 + 4 * j) i μ).2.2 → (fillM rc (8 + 4 * j) i μ).1.1 (rc + 1) x = (fr2 442 j m (μ.1 84) (μ.1 89) (T0 μ) i).2.1 x
  | 0, _ => by
    have hm := SRx.m4 h
    have hrc : rc = 62 ∨ rc = 64 := hr
    refine ⟨D, by omega, ⟨SRx.dM h, ?_⟩, ?_, rfl, fun x hx => absurd hx (Nat.not_lt_zero x)⟩
    · show ldG (μ.1 83) 442 (442 + 1) = _
      rw [ld_hi (by decide)]
      exact SRx.dg h
    · refine Hd.lend (M := μ.1) (c := 8 + 4 * j) (M' := (uI (spareM μ (8 + 4 * j)) rc 1 0).1) (SRx.hd h j hj) (by omega) ?_ ?_ (fun q hq => ⟨?_, ?_, ?_⟩)
      · rw [uI_ne (by omega), spare_k]
      · rw [uI_ne (by omega), spare_a]
      · rw [uI_ne (by omega), spare_54, cut_in hq]
      · rw [uI_ne (by omega), spare_55, cut_in hq]
      · rw [uI_ne (by omega), spare_56, cut_in hq]
  | i + 1, hi => by
    have hm := SRx.m4 h
    have hn := SRx.n12 h
    have hrc : rc = 62 ∨ rc = 64 := hr
    obtain ⟨E, hE, ⟨d1, d2⟩, hH, hc, hx⟩ := fil hr h hj hD i (by omega)
    obtain ⟨⟨e1, e2, e3⟩, hI⟩ := SRx.ls h i (by omega)
    have e1' : μ.1 5 i = μ.1 89 (3 * i) := e1
    have e2' : μ.1 6 i = μ.1 89 (3 * i + 1) := e2
    have e3' : μ.1 7 i = μ.1 89 (3 * i + 2) := e3
    obtain ⟨k, hk, ek, hso⟩ := hI.n
    have f3 : (fillM rc (8 + 4 * j) i μ).1.1 3 = μ.1 3 := fill_fr (by omega) (by omega) (by omega)
    have es : fillM rc (8 + 4 * j) (i + 1) μ = fstep rc (fillM rc (8 + 4 * j) i μ) (μ.1 5 i) (μ.1 6 i) (μ.1 7 i) := rfl
    have et : fr2 442 j m (μ.1 84) (μ.1 89) (T0 μ) (i + 1) = (dst 442 j m (μ.1 84) (μ.1 89) (fr2 442 j m (μ.1 84) (μ.1 89) (T0 μ) i).1 i, if μ.1 89 (3 * i) = 0 then (upd (upd (upd (fr2 442 j m (μ.1 84) (μ.1 89) (T0 μ) i).2.1 (3 * (fr2 442 j m (μ.1 84) (μ.1 89) (T0 μ) i).2.2) (μ.1 89 (3 * i + 1))) (3 * (fr2 442 j m (μ.1 84) (μ.1 89) (T0 μ) i).2.2 + 1) (dsv 442 j (μ.1 84) (μ.1 89) (fr2 442 j m (μ.1 84) (μ.1 89) (T0 μ) i).1 i)) (3 * (fr2 442 j m (μ.1 84) (μ.1 89) (T0 μ) i).2.2 + 2) (dst 442 j m (μ.1 84) (μ.1 89) (fr2 442 j m (μ.1 84) (μ.1 89) (T0 μ) i).1 i).2.2.2.1, (fr2 442 j m (μ.1 84) (μ.1 89) (T0 μ) i).2.2 + 1) else (fr2 442 j m (μ.1 84) (μ.1 89) (T0 μ) i).2) := rfl
    rw [es, et]
    generalize fillM rc (8 + 4 * j) i μ = V at d1 hH hc hx f3 ⊢
    generalize fr2 442 j m (μ.1 84) (μ.1 89) (T0 μ) i = T at d2 hH hc hx ⊢
    unfold fstep dst dsv
    rw [e1', e2', e3', ek, nI_clamp (show k < 2 ^ 31 by omega)]
    rcases hso with a | a | ⟨a, hk9⟩
    · have eF : cF V.1 53 (μ.1 89 (3 * i + 2)) k = fd T.1.1 442 j k (μ.1 89 (3 * i + 2)) (μ.1 84) := by
        unfold cF
        exact hH.find hk (by rw [f3]; exact SRx.ww h 1 (by decide)) (by rw [f3]; exact SRx.ww h 2 (by decide))
      rw [eF, if_pos a, if_pos a, if_pos a, if_pos a, d1]
      have hA := Hd.ask (ν := ansM V.1 (fd T.1.1 442 j k (μ.1 89 (3 * i + 2)) (μ.1 84))) (c := 53) (A := 442) (l := j) (p := k) (g := T.1.1) (W := μ.1 84) (day := nI E) (t := μ.1 89 (3 * i + 2)) (hH.fr (ansM_ne (by decide)) (ansM_ne (by decide)) (ansM_ne (by decide)) (ansM_ne (by decide))) hk d2.symm (nI_pos' (by omega))
      refine ⟨E, by omega, ⟨rfl, ?_⟩, ?_, ?_, ?_⟩
      · show akG _ _ _ _ _ _ = _
        rw [akG, ls3_out (by omega)]
        exact d2
      · exact hA.fr (rowM_ne (by omega) (by omega)) (rowM_ne (by omega) (by omega)) (rowM_ne (by omega) (by omega)) (rowM_ne (by omega) (by omega))
      · show V.2.2 + 1 = T.2.2 + 1
        rw [hc]
      · intro x hx'
        show (rowM rc _ _ _ _ _).1 (rc + 1) x = upd (upd (upd T.2.1 (3 * T.2.2) (nI k)) (3 * T.2.2 + 1) _) (3 * T.2.2 + 2) _ x
        rw [rowM_c, ← hc]
        refine row3_congr (fun y hy => ?_) x hx'
        rw [keepM, r3_ne (by omega) (by omega) (by omega), ansM_ne (by omega)]
        exact hx y hy
    · have n0 : ¬ μ.1 89 (3 * i) = 0 := by rw [a]; decide
      rw [if_neg n0, if_neg n0, if_neg n0, if_pos a, if_pos a]
      refine ⟨E, by omega, ⟨d1, ?_⟩, hH.told hk, hc, fun x hx' => ?_⟩
      · show upd _ _ _ _ = _
        rw [pk_un (by omega)]
        exact d2
      · show (uI V.1 (53 + 1) k _).1 (rc + 1) x = _
        rw [uI_ne (by omega)]
        exact hx x hx'
    · have n0 : ¬ μ.1 89 (3 * i) = 0 := by rw [a]; decide
      have n1 : ¬ μ.1 89 (3 * i) = 1 := by rw [a]; decide
      rw [if_neg n0, if_neg n0, if_neg n0, if_neg n1, if_neg n1]
      refine ⟨E + k, by omega, ⟨?_, ?_⟩, ?_, hc, fun x hx' => ?_⟩
      · show V.2.1 + nI k = _
        rw [d1, nI_add]
      · show ngN _ _ _ _ _ _ = _
        rw [nN_day, d2, nI_add]
      · refine hH.rest (M' := (rI V.1 (53 + 1) (sleepF (V.1.1 3 0) k (V.1.1 (53 + 1)) (V.1.1 (53 + 2)))).1) hj (SRx.w50 h) (rI_ne (by decide)) (fun q hq => ?_) (rI_ne (by decide)) (rI_ne (by decide))
        rw [rI_eq, sleepF, if_pos hq, f3, show μ.1 3 0 = μ.1 84 0 from SRx.ww h 0 (by decide)]
      · show (rI V.1 (53 + 1) _).1 (rc + 1) x = _
        rw [rI_ne (by omega)]
        exact hx x hx'
theorem op_prove {m n D s : Nat} {μ : Me} (hD : D ≤ 108 * s) (h : RRx m n D s μ) (hs : s ≤ 64) (l : Int32) : OpI m_S_prove 6 m_M_prove 9 [.int l] μ s := by
  have hm := SRx.m4 h.sc
  have hc := h.sc.cls
  by_cases hG : 0 ≤ l ∧ l < nI m
  · obtain ⟨j, hj, rfl⟩ := lr_yes hm hG
    have hn := SRx.n12 h.sc
    obtain ⟨E, hE, -, -, hcnt, hx⟩ := fil (rc := 62) (Or.inl rfl) h.sc hj (by omega) n (Nat.le_refl n)
    have c1 := c_S_prove hm hj hn μ hc (SRx.ln h.sc) h.sc.rt h.sc.lsok
    have hi := (f_inv (rc := 62) (Or.inl rfl) (so := μ.1 5) (ab := μ.1 6) (se := μ.1 7) (fill0_inv (Or.inl rfl) hj h.sc.rt) h.sc.lsok n (Nat.le_refl n)).1
    have hle : (fillM 62 (8 + 4 * j) n μ).2.2 ≤ n := f_cnt rfl n
    have gf : ∀ c, c < 53 ∨ (57 < c ∧ c ≠ 62 ∧ c ≠ 63) → (fillM 62 (8 + 4 * j) n μ).1.1 c = μ.1 c := fun c h1 => fill_fr (by omega) (by omega) (by omega)
    have gl : (fillM 62 (8 + 4 * j) n μ).1.2 = μ.2 := fill_L
    have hi' : (fillM 62 (8 + 4 * j) n μ).1.1 62 1 = nI (fillM 62 (8 + 4 * j) n μ).2.2 := hi
    generalize fillM 62 (8 + 4 * j) n μ = V at c1 hcnt hx hi' hle gf gl
    have e82 := gf 82 (by omega)
    have e83 := gf 83 (by omega)
    have e84 := gf 84 (by omega)
    have e89 := gf 89 (by omega)
    have c2 := c_M_prove hm hj hn V.1 (by rw [e82]; exact h.at0) (by rw [e82]; exact SRx.im h.sc) (by rw [e83]; exact h.sc.ok) (by rw [e84]; exact SRx.w50 h.sc) (by rw [e89]; exact h.sc.it)
    rw [e84, e89, show T0 V.1 = T0 μ by unfold T0 q0; rw [e82, e83, gf 92 (by omega)]] at c2
    have h0 : ∀ i, i < 442 → (fr2 442 j m (μ.1 84) (μ.1 89) (T0 μ) n).1.1 i = μ.1 83 i := fun i hi => by
      rw [fr2_lo hi]
      exact ld_lo hi
    generalize fr2 442 j m (μ.1 84) (μ.1 89) (T0 μ) n = T at c2 hcnt hx h0
    refine opI c1 c2 (by rw [hcnt]) (show D ≤ _ by omega) (h.up.setR ⟨fun c h1 h2 => ?_, fun i h1 h2 => ?_, fun i hi => ?_, fun c _ _ => ?_⟩ ⟨V.2.2, by omega, ⟨?_, ?_⟩, fun x hx' => ?_⟩)
    · unfold scr at h1
      unfold pR at h2
      rw [pvM, rI_ne (by omega), uI_ne (by omega), fsM, dsM_ne (by omega) (by omega), uI_ne (by omega), rI_ne (by omega), gf c (by omega)]
    · unfold scj at h1
      rw [pvM, rI_ne (by omega), uI_off h2, fsM, dsM_o (by omega) (by omega) (by omega), uI_off (by omega), rI_ne (by omega), e82]
    · rw [pvM, rI_ne (by omega), uI_ne (by omega), fsM, dsM_83]
      exact h0 i hi
    · show V.1.2 c = μ.2 c
      rw [gl]
    · rw [pvM, rI_ne (by omega), uI_ne (by omega), fsM, dsM_ne (by omega) (by omega), uI_ne (by omega), rI_ne (by omega)]
      exact hi'
    · rw [pvM, rI_ne (by omega), uI_at, hcnt]
    · rw [pvM, rI_ne (by omega), uI_ne (by omega), fsM, dsM_ne (by omega) (by omega), uI_ne (by omega), rI_ne (by omega), rI_eq, cut_in (by omega)]
      exact hx x hx'
  · exact opI (c_S_prove_no l μ hc hG) (c_M_prove_no hm l μ h.sc.ref hG) rfl (show D ≤ _ by omega) h.up
theorem same_congr {n1 n2 i : Nat} {f f' g g' : Nat → Int32} (hf : ∀ x, x < 3 * n1 → f x = f' x) (hg : ∀ x, x < 3 * n2 → g x = g' x) : sameB n1 n2 f g i ↔ sameB n1 n2 f' g' i := by
  unfold sameB
  refine and_congr_right (fun h1 => and_congr_right (fun h2 => ?_))
  rw [hf (3 * i) (by omega), hf (3 * i + 1) (by omega), hf (3 * i + 2) (by omega), hg (3 * i) (by omega), hg (3 * i + 1) (by omega), hg (3 * i + 2) (by omega)]
theorem jd_ex (n1 n2 : Nat) (f g : Nat → Int32) : ∀ r k, k + r = n1 → (∀ i, i < k → sameB n1 n2 f g i) → ∃ v : Int32, ∀ o, jdP n1 n2 f g o → o = some (.int v)
  | 0, k, hk, hs => ⟨_, fun o ho => (ho k (by omega) hs).2 (by omega)⟩
  | r + 1, k, hk, hs => by
    by_cases e : sameB n1 n2 f g k
    · refine jd_ex n1 n2 f g r (k + 1) (by omega) (fun i hi => ?_)
      by_cases e' : i = k
      · subst e'
        exact e
      · exact hs i (by omega)
    · exact ⟨_, fun o ho => (ho k (by omega) hs).1 (by omega) e⟩
theorem jd_congr {n1 n2 : Nat} {f f' g g' : Nat → Int32} {o : Option Value} (hf : ∀ x, x < 3 * n1 → f x = f' x) (hg : ∀ x, x < 3 * n2 → g x = g' x) (h : jdP n1 n2 f g o) : jdP n1 n2 f' g' o := fun k hk hs =>
  ⟨fun h1 h2 => (h k hk (fun i hi => (same_congr hf hg).mpr (hs i hi))).1 h1 (fun z => h2 ((same_congr hf hg).mp z)), (h k hk (fun i hi => (same_congr hf hg).mpr (hs i hi))).2⟩
theorem op_judge {m n D s : Nat} {μ : Me} (hD : D ≤ 108 * s) (h : RRx m n D s μ) (hs : s ≤ 64) (l : Int32) : OpI m_S_judge 6 m_M_judge 9 [.int l] μ s := by
  have hm := SRx.m4 h.sc
  have hc := h.sc.cls
  by_cases hG : 0 ≤ l ∧ l < nI m
  · obtain ⟨j, hj, rfl⟩ := lr_yes hm hG
    have hn := SRx.n12 h.sc
    obtain ⟨n1, hn1, ⟨e1, e2⟩, hr⟩ := h.2.2.2.2.1
    obtain ⟨E, hE, -, -, hcnt, hx⟩ := fil (rc := 64) (Or.inr rfl) h.sc hj (by omega) n (Nat.le_refl n)
    have c1 := c_S_judge hm hj hn hn1 μ hc (SRx.ln h.sc) e1 h.sc.rt h.sc.lsok
    have gf : ∀ c, c < 53 ∨ (57 < c ∧ c ≠ 64 ∧ c ≠ 65) → (fillM 64 (8 + 4 * j) n μ).1.1 c = μ.1 c := fun c h1 => fill_fr (by omega) (by omega) (by omega)
    have gl : (fillM 64 (8 + 4 * j) n μ).1.2 = μ.2 := fill_L
    generalize fillM 64 (8 + 4 * j) n μ = V at c1 hcnt hx gf gl
    have e82 := gf 82 (by omega)
    have e83 := gf 83 (by omega)
    have e84 := gf 84 (by omega)
    have e89 := gf 89 (by omega)
    have c2 := c_M_judge hm hj hn hn1 V.1 (by rw [e82]; exact h.at0) (by rw [e82]; exact SRx.im h.sc) (by rw [e82]; exact e2) (by rw [e83]; exact h.sc.ok) (by rw [e84]; exact SRx.w50 h.sc) (by rw [e89]; exact h.sc.it)
    rw [e84, e89, gf 91 (by omega), show T0 V.1 = T0 μ by unfold T0 q0; rw [e82, e83, gf 92 (by omega)]] at c2
    have h0 : ∀ i, i < 442 → (fr2 442 j m (μ.1 84) (μ.1 89) (T0 μ) n).1.1 i = μ.1 83 i := fun i hi => by
      rw [fr2_lo hi]
      exact ld_lo hi
    generalize fr2 442 j m (μ.1 84) (μ.1 89) (T0 μ) n = T at c2 hcnt hx h0
    obtain ⟨v, hv⟩ := jd_ex n1 V.2.2 (μ.1 63) (V.1.1 65) n1 0 (by omega) (fun i hi => absurd hi (Nat.not_lt_zero i))
    refine Ct.mono (fun r μ1 z => ⟨v, hv r z.1, ?_⟩) c1
    obtain ⟨-, rfl⟩ := z
    refine Ct.mono (fun r' μ2 y => ⟨hv r' ?_, m, n, D, by omega, ?_⟩) c2
    · rw [hcnt] at hx ⊢
      exact jd_congr (fun x hx' => (hr x hx').symm) (fun x hx' => (hx x hx').symm) y.1
    · rw [y.2]
      refine h.up.same ⟨fun c h1 => ?_, fun i h1 => ?_, fun i hi => ?_, fun c _ => ?_⟩
      · unfold scr at h1
        rw [fsM, dsM_ne (by omega) (by omega), uI_ne (by omega), rI_ne (by omega), gf c (by omega)]
      · unfold scj at h1
        rw [fsM, dsM_o (by omega) (by omega) (by omega), uI_off (by omega), rI_ne (by omega), e82]
      · rw [fsM, dsM_83]
        exact h0 i hi
      · show V.1.2 c = μ.2 c
        rw [gl]
  · exact opI (c_S_judge_no l μ hc hG) (c_M_judge_no hm l μ h.sc.ref hG) rfl (show D ≤ _ by omega) h.up
