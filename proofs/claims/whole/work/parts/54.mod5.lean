/-! the reference: asking, telling, nights -/
set_option maxHeartbeats 400000 in
theorem c_M_would_no {m : Nat} (hm : m ≤ 4) (l p t w : Int32) (μ : Me) (hct : μ.1 83 0 = nI m) (hG : ¬ ((0 ≤ l ∧ l < nI m) ∧ (0 ≤ p ∧ p < 36) ∧ (1 ≤ t ∧ t ≤ 9) ∧ 0 ≤ w ∧ w ≤ 3)) : CtI m_M_would 6 [.ref 82, .int l, .int p, .int t, .int w] μ (-1) μ := by
  refine Ct.of (ls := [.ref 82, .int l, .int p, .int t, .int w]) rfl (Nat.le_of_ble_eq_true rfl) rfl (fun X => ?_)
  refine r_aload_n 0 d_M_would_0 rfl rfl ?_
  refine r_iload_n 1 d_M_would_1 rfl rfl ?_
  refine r_callVi (c_M_isLearner hm _ _ hct) lk_M_115 (by first | with_reducible assumption | rfl) d_M_would_2 rfl rfl (Nat.le_of_ble_eq_true rfl) (by decide) ?_
  refine r_if_eq d_M_would_5 (fun h5 => ?_) (fun h5 => ?_)
  · refine r_iconst (-1) d_M_would_32 rfl ?_
    refine r_iret .int d_M_would_33 rfl rfl ?_
    exact ⟨rfl, rfl⟩
  · refine r_iload_n 2 d_M_would_8 rfl rfl ?_
    refine r_callSi (c_M_isPair _ _) lk_M_91 d_M_would_9 rfl rfl (Nat.le_of_ble_eq_true rfl) (by decide) ?_
    refine r_if_eq d_M_would_12 (fun h12 => ?_) (fun h12 => ?_)
    · refine r_iconst (-1) d_M_would_32 rfl ?_
      refine r_iret .int d_M_would_33 rfl rfl ?_
      exact ⟨rfl, rfl⟩
    · refine r_iload_n 3 d_M_would_15 rfl rfl ?_
      refine r_callSi (c_M_isTime _ _) lk_M_142 d_M_would_16 rfl rfl (Nat.le_of_ble_eq_true rfl) (by decide) ?_
      refine r_if_eq d_M_would_19 (fun h19 => ?_) (fun h19 => ?_)
      · refine r_iconst (-1) d_M_would_32 rfl ?_
        refine r_iret .int d_M_would_33 rfl rfl ?_
        exact ⟨rfl, rfl⟩
      · refine r_iload 4 d_M_would_22 rfl ?_
        refine r_iconst 0 d_M_would_24 rfl ?_
        refine r_iconst 3 d_M_would_25 rfl ?_
        refine r_callSi (c_M_in _ _ _ _) lk_M_72 d_M_would_26 rfl rfl (Nat.le_of_ble_eq_true rfl) (by decide) ?_
        refine r_if_ne d_M_would_29 (fun h29 => ?_) (fun h29 => ?_)
        · exact absurd ⟨bz_p h5, bz_p h12, bz_p h19, bz_p h29⟩ hG
        · refine r_iconst (-1) d_M_would_32 rfl ?_
          refine r_iret .int d_M_would_33 rfl rfl ?_
          exact ⟨rfl, rfl⟩
set_option maxHeartbeats 400000 in
theorem c_M_would {m j p : Nat} (hm : m ≤ 4) (hj : j < m) (hp : p < 36) (t w : Int32) (ht : 1 ≤ t ∧ t ≤ 9) (hw : 0 ≤ w ∧ w ≤ 3) (μ : Me) (hct : μ.1 83 0 = nI m) (hat : μ.1 82 1 = nI 0) (hO : LO (μ.1 83) 0 j) : CtI m_M_would 6 [.ref 82, .int (nI j), .int (nI p), .int t, .int w] μ (pick4 (fd (μ.1 83) 0 j p t (μ.1 84)) w) (saM μ (fd (μ.1 83) 0 j p t (μ.1 84))) := by
  refine Ct.of (ls := [.ref 82, .int (nI j), .int (nI p), .int t, .int w]) rfl (Nat.le_of_ble_eq_true rfl) rfl (fun X => ?_)
  refine r_aload_n 0 d_M_would_0 rfl rfl ?_
  refine r_iload_n 1 d_M_would_1 rfl rfl ?_
  refine r_callVi (c_M_isLearner hm _ _ hct) lk_M_115 (by first | with_reducible assumption | rfl) d_M_would_2 rfl rfl (Nat.le_of_ble_eq_true rfl) (by decide) ?_
  refine r_if_eq d_M_would_5 (fun h5 => absurd h5 (bzy (nIb hj hm))) (fun h5 => ?_)
  refine r_iload_n 2 d_M_would_8 rfl rfl ?_
  refine r_callSi (c_M_isPair _ _) lk_M_91 d_M_would_9 rfl rfl (Nat.le_of_ble_eq_true rfl) (by decide) ?_
  refine r_if_eq d_M_would_12 (fun h12 => absurd h12 (bzy (pIb hp))) (fun h12 => ?_)
  refine r_iload_n 3 d_M_would_15 rfl rfl ?_
  refine r_callSi (c_M_isTime _ _) lk_M_142 d_M_would_16 rfl rfl (Nat.le_of_ble_eq_true rfl) (by decide) ?_
  refine r_if_eq d_M_would_19 (fun h19 => absurd h19 (bzy ht)) (fun h19 => ?_)
  refine r_iload 4 d_M_would_22 rfl ?_
  refine r_iconst 0 d_M_would_24 rfl ?_
  refine r_iconst 3 d_M_would_25 rfl ?_
  refine r_callSi (c_M_in _ _ _ _) lk_M_72 d_M_would_26 rfl rfl (Nat.le_of_ble_eq_true rfl) (by decide) ?_
  refine r_if_ne d_M_would_29 (fun h29 => ?_) (fun h29 => absurd h29 (bzy hw))
  refine r_aload_n 0 d_M_would_34 rfl rfl ?_
  refine r_iload_n 1 d_M_would_35 rfl rfl ?_
  refine r_iload_n 2 d_M_would_36 rfl rfl ?_
  refine r_iload_n 3 d_M_would_37 rfl rfl ?_
  refine r_callVv (c_M_says (A := 0) (by decide) (show j < 4 by omega) hp t ht _ hat hO) lk_M_173 (by first | with_reducible assumption | rfl) d_M_would_38 rfl rfl (Nat.le_of_ble_eq_true rfl) (by decide) ?_
  refine r_iload 4 d_M_would_41 rfl ?_
  refine r_if_ne d_M_would_43 (fun h43 => ?_) (fun h43 => ?_)
  · refine r_iload 4 d_M_would_54 rfl ?_
    refine r_iconst 1 d_M_would_56 rfl ?_
    refine r_icmp_ne d_M_would_57 (fun h57 => ?_) (fun h57 => ?_)
    · refine r_iload 4 d_M_would_67 rfl ?_
      refine r_iconst 2 d_M_would_69 rfl ?_
      refine r_icmp_ne d_M_would_70 (fun h70 => ?_) (fun h70 => ?_)
      · refine r_aload_n 0 d_M_would_80 rfl rfl ?_
        refine r_getI fl_M_158 (by first | with_reducible assumption | rfl) rfl d_M_would_81 ?_
        refine r_iret .int d_M_would_84 rfl rfl ?_
        refine ⟨?_, rfl⟩
        first
          | (rw [pick4, if_neg h43, if_neg h57, if_neg h70, saM_6])
          | (rw [pick4, if_neg h43, if_neg h57, if_pos h70, saM_7])
          | (rw [pick4, if_neg h43, if_pos h57, saM_5])
          | (rw [pick4, if_pos h43])
      · refine r_aload_n 0 d_M_would_73 rfl rfl ?_
        refine r_getI fl_M_164 (by first | with_reducible assumption | rfl) rfl d_M_would_74 ?_
        refine r_goto d_M_would_77 ?_
        refine r_iret .int d_M_would_84 rfl rfl ?_
        refine ⟨?_, rfl⟩
        first
          | (rw [pick4, if_neg h43, if_neg h57, if_neg h70, saM_6])
          | (rw [pick4, if_neg h43, if_neg h57, if_pos h70, saM_7])
          | (rw [pick4, if_neg h43, if_pos h57, saM_5])
          | (rw [pick4, if_pos h43])
    · refine r_aload_n 0 d_M_would_60 rfl rfl ?_
      refine r_getI fl_M_161 (by first | with_reducible assumption | rfl) rfl d_M_would_61 ?_
      refine r_goto d_M_would_64 ?_
      refine r_iret .int d_M_would_84 rfl rfl ?_
      refine ⟨?_, rfl⟩
      first
        | (rw [pick4, if_neg h43, if_neg h57, if_neg h70, saM_6])
        | (rw [pick4, if_neg h43, if_neg h57, if_pos h70, saM_7])
        | (rw [pick4, if_neg h43, if_pos h57, saM_5])
        | (rw [pick4, if_pos h43])
  · refine r_aload_n 0 d_M_would_46 rfl rfl ?_
    refine r_iload_n 2 d_M_would_47 rfl rfl ?_
    refine r_callVi (c_M_said hp t _ _ _ saM_5 saM_6) lk_M_177 (by first | with_reducible assumption | rfl) d_M_would_48 rfl rfl (Nat.le_of_ble_eq_true rfl) (by decide) ?_
    refine r_goto d_M_would_51 ?_
    refine r_iret .int d_M_would_84 rfl rfl ?_
    refine ⟨?_, rfl⟩
    first
      | (rw [pick4, if_neg h43, if_neg h57, if_neg h70, saM_6])
      | (rw [pick4, if_neg h43, if_neg h57, if_pos h70, saM_7])
      | (rw [pick4, if_neg h43, if_pos h57, saM_5])
      | (rw [pick4, if_pos h43])
set_option maxHeartbeats 400000 in
theorem c_M_firmBecomes {A l p : Nat} (hA : A ≤ 442) (hl : l < 4) (hp : p < 36) (v : Int32) (μ : Me) (hat : μ.1 82 1 = nI A) : CtV m_M_firmBecomes 1 [.ref 82, .int (nI l), .int (nI p), .int v] μ (uI μ 83 (A + 4 + 110 * l + 3 * p) (kpS v)) := by
  refine Ct.of (ls := [.ref 82, .int (nI l), .int (nI p), .int v]) rfl (Nat.le_of_ble_eq_true rfl) rfl (fun X => ?_)
  refine r_aload_n 0 d_M_firmBecomes_0 rfl rfl ?_
  refine r_getR fl_M_7 (by first | with_reducible assumption | rfl) rfl d_M_firmBecomes_1 ?_
  refine r_aload_n 0 d_M_firmBecomes_4 rfl rfl ?_
  refine r_iload_n 1 d_M_firmBecomes_5 rfl rfl ?_
  refine r_iload_n 2 d_M_firmBecomes_6 rfl rfl ?_
  refine r_callVi (c_M_place _ hat) lk_M_109 (by first | with_reducible assumption | rfl) d_M_firmBecomes_7 rfl rfl (Nat.le_of_ble_eq_true rfl) (by decide) ?_
  refine r_iload_n 3 d_M_firmBecomes_10 rfl rfl ?_
  refine r_callSi (c_M_kept _ _) lk_M_139 d_M_firmBecomes_11 rfl rfl (Nat.le_of_ble_eq_true rfl) (by decide) ?_
  refine r_iastN (by first | with_reducible assumption | rfl) (by first | with_reducible assumption | omega | decide | assumption) d_M_firmBecomes_14 ?_
  refine r_ret d_M_firmBecomes_15 rfl ?_
  exact ⟨rfl, rfl⟩
/-- the reference's row with a LEARNER's three rows set -/
def ls3 (g : Nat → Int32) (A l : Nat) (f r x : Nat → Int32) : Nat → Int32 := fun i => if A + 4 + 110 * l ≤ i ∧ i < A + 4 + 110 * l + 108 then (if (i - (A + 4 + 110 * l)) % 3 = 0 then f ((i - (A + 4 + 110 * l)) / 3) else if (i - (A + 4 + 110 * l)) % 3 = 1 then r ((i - (A + 4 + 110 * l)) / 3) else x ((i - (A + 4 + 110 * l)) / 3)) else g i
theorem ls3_out {g : Nat → Int32} {A l i : Nat} {f r x : Nat → Int32} (h : ¬ (A + 4 + 110 * l ≤ i ∧ i < A + 4 + 110 * l + 108)) : ls3 g A l f r x i = g i := by rw [ls3, if_neg h]
theorem ls3_f {g : Nat → Int32} {A l p : Nat} {f r x : Nat → Int32} (hp : p < 36) : fM (ls3 g A l f r x) A l p = f p := by
  rw [fM, ls3, if_pos (by omega), if_pos (by omega), show (A + 4 + 110 * l + 3 * p - (A + 4 + 110 * l)) / 3 = p by omega]
theorem ls3_r {g : Nat → Int32} {A l p : Nat} {f r x : Nat → Int32} (hp : p < 36) : rM (ls3 g A l f r x) A l p = r p := by
  rw [rM, ls3, if_pos (by omega), if_neg (by omega), if_pos (by omega), show (A + 4 + 110 * l + 3 * p + 1 - (A + 4 + 110 * l)) / 3 = p by omega]
theorem ls3_l {g : Nat → Int32} {A l p : Nat} {f r x : Nat → Int32} (hp : p < 36) : lM (ls3 g A l f r x) A l p = x p := by
  rw [lM, ls3, if_pos (by omega), if_neg (by omega), if_neg (by omega), show (A + 4 + 110 * l + 3 * p + 2 - (A + 4 + 110 * l)) / 3 = p by omega]
theorem ls3_self {g : Nat → Int32} {A l : Nat} : ls3 g A l (fM g A l) (rM g A l) (lM g A l) = g := by
  funext i
  by_cases h : A + 4 + 110 * l ≤ i ∧ i < A + 4 + 110 * l + 108
  · rw [ls3, if_pos h]
    by_cases h0 : (i - (A + 4 + 110 * l)) % 3 = 0
    · rw [if_pos h0, fM]; congr 1; omega
    · rw [if_neg h0]
      by_cases h1 : (i - (A + 4 + 110 * l)) % 3 = 1
      · rw [if_pos h1, rM]; congr 1; omega
      · rw [if_neg h1, lM]; congr 1; omega
  · rw [ls3_out h]
theorem ls3_u1 {g : Nat → Int32} {A l p : Nat} {f r x : Nat → Int32} {v : Int32} (hp : p < 36) : upd (ls3 g A l f r x) (A + 4 + 110 * l + 3 * p) v = ls3 g A l (upd f p v) r x := by
  funext i
  by_cases h : A + 4 + 110 * l ≤ i ∧ i < A + 4 + 110 * l + 108
  · simp only [upd, ls3, if_pos h]
    by_cases e : i = A + 4 + 110 * l + 3 * p
    · rw [if_pos e, if_pos (by omega), if_pos (by omega)]
    · rw [if_neg e]
      by_cases h0 : (i - (A + 4 + 110 * l)) % 3 = 0
      · rw [if_pos h0, if_pos h0, if_neg (by omega)]
      · rw [if_neg h0, if_neg h0]
  · rw [ls3_out h, upd, if_neg (by omega), ls3_out h]
theorem ls3_u2 {g : Nat → Int32} {A l p : Nat} {f r x : Nat → Int32} {v : Int32} (hp : p < 36) : upd (ls3 g A l f r x) (A + 4 + 110 * l + 3 * p + 1) v = ls3 g A l f (upd r p v) x := by
  funext i
  by_cases h : A + 4 + 110 * l ≤ i ∧ i < A + 4 + 110 * l + 108
  · simp only [upd, ls3, if_pos h]
    by_cases e : i = A + 4 + 110 * l + 3 * p + 1
    · rw [if_pos e, if_neg (by omega), if_pos (by omega), if_pos (by omega)]
    · rw [if_neg e]
      by_cases h0 : (i - (A + 4 + 110 * l)) % 3 = 1
      · have hz : ¬ (i - (A + 4 + 110 * l)) % 3 = 0 := by omega
        rw [if_neg hz, if_neg hz, if_pos h0, if_pos h0, if_neg (by omega)]
      · rw [if_neg h0, if_neg h0]
  · rw [ls3_out h, upd, if_neg (by omega), ls3_out h]
theorem ls3_u3 {g : Nat → Int32} {A l p : Nat} {f r x : Nat → Int32} {v : Int32} (hp : p < 36) : upd (ls3 g A l f r x) (A + 4 + 110 * l + 3 * p + 2) v = ls3 g A l f r (upd x p v) := by
  funext i
  by_cases h : A + 4 + 110 * l ≤ i ∧ i < A + 4 + 110 * l + 108
  · simp only [upd, ls3, if_pos h]
    by_cases e : i = A + 4 + 110 * l + 3 * p + 2
    · rw [if_pos e, if_neg (by omega), if_neg (by omega), if_pos (by omega)]
    · rw [if_neg e]
      by_cases h0 : (i - (A + 4 + 110 * l)) % 3 = 2
      · have hz : ¬ (i - (A + 4 + 110 * l)) % 3 = 0 := by omega
        have hy : ¬ (i - (A + 4 + 110 * l)) % 3 = 1 := by omega
        rw [if_neg hz, if_neg hy, if_neg hz, if_neg hy, if_neg (by omega)]
      · by_cases h1 : (i - (A + 4 + 110 * l)) % 3 = 0
        · rw [if_pos h1, if_pos h1]
        · have hy : (i - (A + 4 + 110 * l)) % 3 = 1 := by omega
          rw [if_neg h1, if_neg h1, if_pos hy, if_pos hy]
  · rw [ls3_out h, upd, if_neg (by omega), ls3_out h]
theorem gain_e {f : Int32} (h : 0 ≤ f ∧ f ≤ 100) : kpS (f + (100 - f) / 4 + 1) = gainS f := by
  obtain ⟨n, hn, rfl⟩ := nI_of2 (M := 100) (n := 100) (by decide) (Int32.not_lt.mpr h.1) h.2
  revert n
  decide +kernel
theorem told_e {f : Int32} (h : 0 ≤ f ∧ f ≤ 100) : kpS (f + (100 - f) / 6 + 1) = toldS f := by
  obtain ⟨n, hn, rfl⟩ := nI_of2 (M := 100) (n := 100) (by decide) (Int32.not_lt.mpr h.1) h.2
  revert n
  decide +kernel
theorem loss_e {f : Int32} (h : 0 ≤ f ∧ f ≤ 100) : kpS (f - 1) = lossS f := by unfold kpS lossS; grind
theorem more_e {f : Int32} (h : 0 ≤ f ∧ f ≤ 100) : kpS (f + 1) = moreS f := by unfold kpS moreS; grind
theorem loss_r {f : Int32} (h : 0 ≤ f ∧ f ≤ 100) : 0 ≤ lossS f ∧ lossS f ≤ 100 := by unfold lossS; grind
theorem r9_no {r : Int32} (h : 9 ≤ r) (h2 : r ≤ 9) : r9S r = r := by unfold r9S; grind
theorem r9_yes {r : Int32} (h : ¬ 9 ≤ r) : r9S r = r + 1 := by unfold r9S; grind
theorem upd_self {f : Nat → Int32} {p : Nat} : upd f p (f p) = f := by
  funext i
  by_cases h : i = p
  · subst h; simp [upd]
  · simp [upd, h]
theorem fd_how {g : Nat → Int32} {A l p : Nat} {t : Int32} {w : Nat → Int32} : (fd g A l p t w).2.1 = 0 ∨ (fd g A l p t w).2.1 = 1 ∨ (fd g A l p t w).2.1 = 2 ∨ (fd g A l p t w).2.1 = 3 := by
  unfold fd findS
  split
  · exact Or.inl rfl
  · split
    · exact Or.inr (Or.inl rfl)
    · split
      · exact Or.inr (Or.inr (Or.inl rfl))
      · exact Or.inr (Or.inr (Or.inr rfl))
/-- the row when a LEARNER was asked -/
def akG (g : Nat → Int32) (A l p : Nat) (q : Int32 × Int32 × Int32 × Int32) : Nat → Int32 := ls3 g A l (keepFirm q.2.1 q.2.2.2.toNatClampNeg (fM g A l) p) (keepRights q.2.1 (g (A + 1)) (rM g A l) (lM g A l) p) (upd (lM g A l) p (g (A + 1)))
set_option maxHeartbeats 400000 in
theorem c_M_asked {A l p : Nat} (hA : A ≤ 442) (hl : l < 4) (hp : p < 36) (t : Int32) (ht : 1 ≤ t ∧ t ≤ 9) (μ : Me) (hat : μ.1 82 1 = nI A) (hO : LO (μ.1 83) A l) (hr : rM (μ.1 83) A l p ≤ 9) : CtI m_M_asked 6 [.ref 82, .int (nI l), .int (nI p), .int t] μ (fd (μ.1 83) A l p t (μ.1 84)).1 (rI (saM μ (fd (μ.1 83) A l p t (μ.1 84))) 83 (akG (μ.1 83) A l p (fd (μ.1 83) A l p t (μ.1 84)))) := by
  refine Ct.of (ls := [.ref 82, .int (nI l), .int (nI p), .int t, flr]) rfl (Nat.le_of_ble_eq_true rfl) rfl (fun X => ?_)
  have fq := hO.2 p hp
  have c1 := c_M_says hA hl hp t ht μ hat hO
  have c9 := @c_M_said A l p hp t (μ.1 83) (μ.1 84)
  have hh := @fd_how (μ.1 83) A l p t (μ.1 84)
  have hby : (fd (μ.1 83) A l p t (μ.1 84)).2.1 = 2 → ∃ b, b < 36 ∧ (fd (μ.1 83) A l p t (μ.1 84)).2.2.2 = nI b := fun z => find_by hp z
  generalize fd (μ.1 83) A l p t (μ.1 84) = q at *
  have e0 : saM μ q = rI (saM μ q) 83 (ls3 (μ.1 83) A l (fM (μ.1 83) A l) (rM (μ.1 83) A l) (lM (μ.1 83) A l)) := by
    rw [ls3_self]
    exact (rI_self (μ := saM μ q) (c := 83)).symm
  have hat1 : ∀ f, (rI (saM μ q) 83 f).1 82 1 = nI A := fun f => by rw [rI_ne (by decide), saM_o (by decide) (by decide) (by decide), hat]
  have hq5 : ∀ f, (rI (saM μ q) 83 f).1 82 5 = q.2.1 := fun f => by rw [rI_ne (by decide), saM_5]
  have hq6 : ∀ f, (rI (saM μ q) 83 f).1 82 6 = q.2.2.2 := fun f => by rw [rI_ne (by decide), saM_6]
  have dayE : ∀ f r x, (ls3 (μ.1 83) A l f r x) (A + 1) = μ.1 83 (A + 1) := fun f r x => ls3_out (by omega)
  have xf : ∀ f r x, (ls3 (μ.1 83) A l f r x) (A + 4 + 110 * l + 3 * p) = f p := fun f r x => ls3_f hp
  have xr : ∀ f r x, (ls3 (μ.1 83) A l f r x) (A + 4 + 110 * l + 3 * p + 1) = r p := fun f r x => ls3_r hp
  have xl : ∀ f r x, (ls3 (μ.1 83) A l f r x) (A + 4 + 110 * l + 3 * p + 2) = x p := fun f r x => ls3_l hp
  by_cases hw : q.2.1 = 0 ∨ q.2.1 = 1
  · have hle : q.2.1 ≤ 1 := by rcases hw with z | z <;> rw [z] <;> decide
    rw [akG, keepFirm, if_pos hw, keepRights]
    refine r_aload_n 0 d_M_asked_0 rfl rfl ?_
    refine r_iload_n 1 d_M_asked_1 rfl rfl ?_
    refine r_iload_n 2 d_M_asked_2 rfl rfl ?_
    refine r_iload_n 3 d_M_asked_3 rfl rfl ?_
    refine r_callVv c1 lk_M_173 (by first | with_reducible assumption | rfl) d_M_asked_4 rfl rfl (Nat.le_of_ble_eq_true rfl) (by decide) ?_
    refine Wa.eqM e0 ?_
    refine r_aload_n 0 d_M_asked_7 rfl rfl ?_
    refine r_iload_n 1 d_M_asked_8 rfl rfl ?_
    refine r_iload_n 2 d_M_asked_9 rfl rfl ?_
    refine r_callVi (c_M_place (A := A) _ (hat1 _)) lk_M_109 (by first | with_reducible assumption | rfl) d_M_asked_10 rfl rfl (Nat.le_of_ble_eq_true rfl) (by decide) ?_
    refine r_istore 4 [_, _, _, _, _] d_M_asked_13 (by decide) rfl ?_
    refine r_aload_n 0 d_M_asked_15 rfl rfl ?_
    refine r_getI fl_M_161 (by first | with_reducible assumption | rfl) rfl d_M_asked_16 ?_
    refine r_iconst 1 d_M_asked_19 rfl ?_
    rw [hq5]
    refine r_icmp_gt d_M_asked_20 (fun h20 => absurd h20 (Int32.not_lt.mpr hle)) (fun h20 => ?_)
    refine r_aload_n 0 d_M_asked_23 rfl rfl ?_
    refine r_iload_n 1 d_M_asked_24 rfl rfl ?_
    refine r_iload_n 2 d_M_asked_25 rfl rfl ?_
    refine r_aload_n 0 d_M_asked_26 rfl rfl ?_
    refine r_getR fl_M_7 (by first | with_reducible assumption | rfl) rfl d_M_asked_27 ?_
    refine r_iload 4 d_M_asked_30 rfl ?_
    refine r_ialdN (by first | with_reducible assumption | rfl) (by first | with_reducible assumption | omega | decide | assumption) d_M_asked_32 ?_
    rw [rI_eq, xf]
    refine r_bipush (100) d_M_asked_33 (by decide) ?_
    refine r_aload_n 0 d_M_asked_35 rfl rfl ?_
    refine r_getR fl_M_7 (by first | with_reducible assumption | rfl) rfl d_M_asked_36 ?_
    refine r_iload 4 d_M_asked_39 rfl ?_
    refine r_ialdN (by first | with_reducible assumption | rfl) (by first | with_reducible assumption | omega | decide | assumption) d_M_asked_41 ?_
    rw [rI_eq, xf]
    refine r_isub d_M_asked_42 ?_
    refine r_iconst 4 d_M_asked_43 rfl ?_
    refine r_idiv d_M_asked_44 (by first | decide | assumption) ?_
    refine r_iadd d_M_asked_45 ?_
    refine r_iconst 1 d_M_asked_46 rfl ?_
    refine r_iadd d_M_asked_47 ?_
    refine r_callVv (c_M_firmBecomes (A := A) hA hl hp _ _ (hat1 _)) lk_M_180 (by first | with_reducible assumption | rfl) d_M_asked_48 rfl rfl (Nat.le_of_ble_eq_true rfl) (by decide) ?_
    rw [gain_e fq, uI_rI, ls3_u1 hp]
    refine r_aload_n 0 d_M_asked_51 rfl rfl ?_
    refine r_getR fl_M_7 (by first | with_reducible assumption | rfl) rfl d_M_asked_52 ?_
    refine r_iload 4 d_M_asked_55 rfl ?_
    refine r_iconst 2 d_M_asked_57 rfl ?_
    refine r_iadd d_M_asked_58 ?_
    rw [add2]
    refine r_ialdN (by first | with_reducible assumption | rfl) (show A + 4 + 110 * l + 3 * p + 2 < 884 by omega) d_M_asked_59 ?_
    refine r_aload_n 0 d_M_asked_60 rfl rfl ?_
    refine r_getR fl_M_7 (by first | with_reducible assumption | rfl) rfl d_M_asked_61 ?_
    refine r_aload_n 0 d_M_asked_64 rfl rfl ?_
    refine r_getI fl_M_106 (by first | with_reducible assumption | rfl) rfl d_M_asked_65 ?_
    refine r_iconst 1 d_M_asked_68 rfl ?_
    refine r_iadd d_M_asked_69 ?_
    rw [hat1, ← nI_succ]
    refine r_ialdN (by first | with_reducible assumption | rfl) (show A + 1 < 884 by omega) d_M_asked_70 ?_
    rw [rI_eq, xl, dayE]
    refine r_icmp_eq d_M_asked_71 (fun h71 => ?_) (fun h71 => ?_)
    · refine r_aload_n 0 d_M_asked_147 rfl rfl ?_
      refine r_getR fl_M_7 (by first | with_reducible assumption | rfl) rfl d_M_asked_148 ?_
      refine r_iload 4 d_M_asked_151 rfl ?_
      refine r_iconst 2 d_M_asked_153 rfl ?_
      refine r_iadd d_M_asked_154 ?_
      rw [add2]
      refine r_aload_n 0 d_M_asked_155 rfl rfl ?_
      refine r_getR fl_M_7 (by first | with_reducible assumption | rfl) rfl d_M_asked_156 ?_
      refine r_aload_n 0 d_M_asked_159 rfl rfl ?_
      refine r_getI fl_M_106 (by first | with_reducible assumption | rfl) rfl d_M_asked_160 ?_
      refine r_iconst 1 d_M_asked_163 rfl ?_
      refine r_iadd d_M_asked_164 ?_
      rw [hat1, ← nI_succ]
      refine r_ialdN (by first | with_reducible assumption | rfl) (show A + 1 < 884 by omega) d_M_asked_165 ?_
      rw [rI_eq, dayE]
      refine r_iastN (by first | with_reducible assumption | rfl) (show A + 4 + 110 * l + 3 * p + 2 < 884 by omega) d_M_asked_166 ?_
      rw [uI_rI, ls3_u3 hp]
      refine r_aload_n 0 d_M_asked_167 rfl rfl ?_
      refine r_iload_n 2 d_M_asked_168 rfl rfl ?_
      refine r_callVi (c9 _ (hq5 _) (hq6 _)) lk_M_177 (by first | with_reducible assumption | rfl) d_M_asked_169 rfl rfl (Nat.le_of_ble_eq_true rfl) (by decide) ?_
      refine r_iret .int d_M_asked_172 rfl rfl ?_
      refine ⟨rfl, ?_⟩
      first
        | (have z71 : lM (μ.1 83) A l p = μ.1 83 (A + 1) := h71
           rw [if_neg (fun z => z.2 z71.symm)])
        | (have z71 : ¬ lM (μ.1 83) A l p = μ.1 83 (A + 1) := h71
           have z85 : 9 ≤ rM (μ.1 83) A l p := h85
           have e9 : r9S (rM (μ.1 83) A l p) = rM (μ.1 83) A l p := r9_no z85 hr
           rw [if_pos ⟨hw, fun z => z71 z.symm⟩, e9, upd_self])
        | (have z71 : ¬ lM (μ.1 83) A l p = μ.1 83 (A + 1) := h71
           have z85 : ¬ 9 ≤ rM (μ.1 83) A l p := h85
           have e9 : r9S (rM (μ.1 83) A l p) = rM (μ.1 83) A l p + 1 := r9_yes z85
           rw [if_pos ⟨hw, fun z => z71 z.symm⟩, e9])
    · refine r_aload_n 0 d_M_asked_74 rfl rfl ?_
      refine r_getR fl_M_7 (by first | with_reducible assumption | rfl) rfl d_M_asked_75 ?_
      refine r_iload 4 d_M_asked_78 rfl ?_
      refine r_iconst 1 d_M_asked_80 rfl ?_
      refine r_iadd d_M_asked_81 ?_
      rw [← nI_succ]
      refine r_ialdN (by first | with_reducible assumption | rfl) (show A + 4 + 110 * l + 3 * p + 1 < 884 by omega) d_M_asked_82 ?_
      rw [rI_eq, xr]
      refine r_bipush (9) d_M_asked_83 (by decide) ?_
      refine r_icmp_ge d_M_asked_85 (fun h85 => ?_) (fun h85 => ?_)
      · refine r_aload_n 0 d_M_asked_147 rfl rfl ?_
        refine r_getR fl_M_7 (by first | with_reducible assumption | rfl) rfl d_M_asked_148 ?_
        refine r_iload 4 d_M_asked_151 rfl ?_
        refine r_iconst 2 d_M_asked_153 rfl ?_
        refine r_iadd d_M_asked_154 ?_
        rw [add2]
        refine r_aload_n 0 d_M_asked_155 rfl rfl ?_
        refine r_getR fl_M_7 (by first | with_reducible assumption | rfl) rfl d_M_asked_156 ?_
        refine r_aload_n 0 d_M_asked_159 rfl rfl ?_
        refine r_getI fl_M_106 (by first | with_reducible assumption | rfl) rfl d_M_asked_160 ?_
        refine r_iconst 1 d_M_asked_163 rfl ?_
        refine r_iadd d_M_asked_164 ?_
        rw [hat1, ← nI_succ]
        refine r_ialdN (by first | with_reducible assumption | rfl) (show A + 1 < 884 by omega) d_M_asked_165 ?_
        rw [rI_eq, dayE]
        refine r_iastN (by first | with_reducible assumption | rfl) (show A + 4 + 110 * l + 3 * p + 2 < 884 by omega) d_M_asked_166 ?_
        rw [uI_rI, ls3_u3 hp]
        refine r_aload_n 0 d_M_asked_167 rfl rfl ?_
        refine r_iload_n 2 d_M_asked_168 rfl rfl ?_
        refine r_callVi (c9 _ (hq5 _) (hq6 _)) lk_M_177 (by first | with_reducible assumption | rfl) d_M_asked_169 rfl rfl (Nat.le_of_ble_eq_true rfl) (by decide) ?_
        refine r_iret .int d_M_asked_172 rfl rfl ?_
        refine ⟨rfl, ?_⟩
        first
          | (have z71 : lM (μ.1 83) A l p = μ.1 83 (A + 1) := h71
             rw [if_neg (fun z => z.2 z71.symm)])
          | (have z71 : ¬ lM (μ.1 83) A l p = μ.1 83 (A + 1) := h71
             have z85 : 9 ≤ rM (μ.1 83) A l p := h85
             have e9 : r9S (rM (μ.1 83) A l p) = rM (μ.1 83) A l p := r9_no z85 hr
             rw [if_pos ⟨hw, fun z => z71 z.symm⟩, e9, upd_self])
          | (have z71 : ¬ lM (μ.1 83) A l p = μ.1 83 (A + 1) := h71
             have z85 : ¬ 9 ≤ rM (μ.1 83) A l p := h85
             have e9 : r9S (rM (μ.1 83) A l p) = rM (μ.1 83) A l p + 1 := r9_yes z85
             rw [if_pos ⟨hw, fun z => z71 z.symm⟩, e9])
      · refine r_aload_n 0 d_M_asked_88 rfl rfl ?_
        refine r_getR fl_M_7 (by first | with_reducible assumption | rfl) rfl d_M_asked_89 ?_
        refine r_iload 4 d_M_asked_92 rfl ?_
        refine r_iconst 1 d_M_asked_94 rfl ?_
        refine r_iadd d_M_asked_95 ?_
        rw [← nI_succ]
        refine r_dup2 d_M_asked_96 rfl rfl ?_
        refine r_ialdN (by first | with_reducible assumption | rfl) (show A + 4 + 110 * l + 3 * p + 1 < 884 by omega) d_M_asked_97 ?_
        rw [rI_eq, xr]
        refine r_iconst 1 d_M_asked_98 rfl ?_
        refine r_iadd d_M_asked_99 ?_
        refine r_iastN (by first | with_reducible assumption | rfl) (show A + 4 + 110 * l + 3 * p + 1 < 884 by omega) d_M_asked_100 ?_
        rw [uI_rI, ls3_u2 hp]
        refine r_goto d_M_asked_101 ?_
        refine r_aload_n 0 d_M_asked_147 rfl rfl ?_
        refine r_getR fl_M_7 (by first | with_reducible assumption | rfl) rfl d_M_asked_148 ?_
        refine r_iload 4 d_M_asked_151 rfl ?_
        refine r_iconst 2 d_M_asked_153 rfl ?_
        refine r_iadd d_M_asked_154 ?_
        rw [add2]
        refine r_aload_n 0 d_M_asked_155 rfl rfl ?_
        refine r_getR fl_M_7 (by first | with_reducible assumption | rfl) rfl d_M_asked_156 ?_
        refine r_aload_n 0 d_M_asked_159 rfl rfl ?_
        refine r_getI fl_M_106 (by first | with_reducible assumption | rfl) rfl d_M_asked_160 ?_
        refine r_iconst 1 d_M_asked_163 rfl ?_
        refine r_iadd d_M_asked_164 ?_
        rw [hat1, ← nI_succ]
        refine r_ialdN (by first | with_reducible assumption | rfl) (show A + 1 < 884 by omega) d_M_asked_165 ?_
        rw [rI_eq, dayE]
        refine r_iastN (by first | with_reducible assumption | rfl) (show A + 4 + 110 * l + 3 * p + 2 < 884 by omega) d_M_asked_166 ?_
        rw [uI_rI, ls3_u3 hp]
        refine r_aload_n 0 d_M_asked_167 rfl rfl ?_
        refine r_iload_n 2 d_M_asked_168 rfl rfl ?_
        refine r_callVi (c9 _ (hq5 _) (hq6 _)) lk_M_177 (by first | with_reducible assumption | rfl) d_M_asked_169 rfl rfl (Nat.le_of_ble_eq_true rfl) (by decide) ?_
        refine r_iret .int d_M_asked_172 rfl rfl ?_
        refine ⟨rfl, ?_⟩
        first
          | (have z71 : lM (μ.1 83) A l p = μ.1 83 (A + 1) := h71
             rw [if_neg (fun z => z.2 z71.symm)])
          | (have z71 : ¬ lM (μ.1 83) A l p = μ.1 83 (A + 1) := h71
             have z85 : 9 ≤ rM (μ.1 83) A l p := h85
             have e9 : r9S (rM (μ.1 83) A l p) = rM (μ.1 83) A l p := r9_no z85 hr
             rw [if_pos ⟨hw, fun z => z71 z.symm⟩, e9, upd_self])
          | (have z71 : ¬ lM (μ.1 83) A l p = μ.1 83 (A + 1) := h71
             have z85 : ¬ 9 ≤ rM (μ.1 83) A l p := h85
             have e9 : r9S (rM (μ.1 83) A l p) = rM (μ.1 83) A l p + 1 := r9_yes z85
             rw [if_pos ⟨hw, fun z => z71 z.symm⟩, e9])
  · have hgt : ¬ q.2.1 ≤ 1 := by
      rcases hh with z | z | z | z
      · exact absurd (Or.inl z) hw
      · exact absurd (Or.inr z) hw
      · rw [z]; decide
      · rw [z]; decide
    have hkr : ∀ d r x, keepRights q.2.1 d r x p = r := fun d r x => by rw [keepRights, if_neg (fun z => hw z.1)]
    rw [akG, hkr, keepFirm, if_neg hw]
    by_cases h2 : q.2.1 = 2
    · rw [if_pos h2]
      obtain ⟨b, hb, eb⟩ := hby h2
      rw [eb, cl36 hb (by decide)]
      have fb := hO.2 b hb
      have lr := loss_r fq
      have ub : 0 ≤ upd (fM (μ.1 83) A l) p (lossS (fM (μ.1 83) A l p)) b ∧ upd (fM (μ.1 83) A l) p (lossS (fM (μ.1 83) A l p)) b ≤ 100 := by
        by_cases e : b = p
        · subst e; simp only [upd, if_true]; exact lr
        · simp only [upd, if_neg e]; exact fb
      refine r_aload_n 0 d_M_asked_0 rfl rfl ?_
      refine r_iload_n 1 d_M_asked_1 rfl rfl ?_
      refine r_iload_n 2 d_M_asked_2 rfl rfl ?_
      refine r_iload_n 3 d_M_asked_3 rfl rfl ?_
      refine r_callVv c1 lk_M_173 (by first | with_reducible assumption | rfl) d_M_asked_4 rfl rfl (Nat.le_of_ble_eq_true rfl) (by decide) ?_
      refine Wa.eqM e0 ?_
      refine r_aload_n 0 d_M_asked_7 rfl rfl ?_
      refine r_iload_n 1 d_M_asked_8 rfl rfl ?_
      refine r_iload_n 2 d_M_asked_9 rfl rfl ?_
      refine r_callVi (c_M_place (A := A) _ (hat1 _)) lk_M_109 (by first | with_reducible assumption | rfl) d_M_asked_10 rfl rfl (Nat.le_of_ble_eq_true rfl) (by decide) ?_
      refine r_istore 4 [_, _, _, _, _] d_M_asked_13 (by decide) rfl ?_
      refine r_aload_n 0 d_M_asked_15 rfl rfl ?_
      refine r_getI fl_M_161 (by first | with_reducible assumption | rfl) rfl d_M_asked_16 ?_
      refine r_iconst 1 d_M_asked_19 rfl ?_
      rw [hq5]
      refine r_icmp_gt d_M_asked_20 (fun h20 => ?_) (fun h20 => absurd (Int32.not_le.mp hgt) h20)
      refine r_aload_n 0 d_M_asked_104 rfl rfl ?_
      refine r_getI fl_M_161 (by first | with_reducible assumption | rfl) rfl d_M_asked_105 ?_
      refine r_iconst 2 d_M_asked_108 rfl ?_
      rw [hq5]
      refine r_icmp_ne d_M_asked_109 (fun h109 => absurd h2 h109) (fun h109 => ?_)
      refine r_aload_n 0 d_M_asked_112 rfl rfl ?_
      refine r_iload_n 1 d_M_asked_113 rfl rfl ?_
      refine r_iload_n 2 d_M_asked_114 rfl rfl ?_
      refine r_aload_n 0 d_M_asked_115 rfl rfl ?_
      refine r_getR fl_M_7 (by first | with_reducible assumption | rfl) rfl d_M_asked_116 ?_
      refine r_iload 4 d_M_asked_119 rfl ?_
      refine r_ialdN (by first | with_reducible assumption | rfl) (by first | with_reducible assumption | omega | decide | assumption) d_M_asked_121 ?_
      rw [rI_eq, xf]
      refine r_iconst 1 d_M_asked_122 rfl ?_
      refine r_isub d_M_asked_123 ?_
      refine r_callVv (c_M_firmBecomes (A := A) hA hl hp _ _ (hat1 _)) lk_M_180 (by first | with_reducible assumption | rfl) d_M_asked_124 rfl rfl (Nat.le_of_ble_eq_true rfl) (by decide) ?_
      rw [loss_e fq, uI_rI, ls3_u1 hp]
      refine r_aload_n 0 d_M_asked_127 rfl rfl ?_
      refine r_iload_n 1 d_M_asked_128 rfl rfl ?_
      refine r_aload_n 0 d_M_asked_129 rfl rfl ?_
      refine r_getI fl_M_158 (by first | with_reducible assumption | rfl) rfl d_M_asked_130 ?_
      rw [hq6, eb]
      refine r_aload_n 0 d_M_asked_133 rfl rfl ?_
      refine r_iload_n 1 d_M_asked_134 rfl rfl ?_
      refine r_aload_n 0 d_M_asked_135 rfl rfl ?_
      refine r_getI fl_M_158 (by first | with_reducible assumption | rfl) rfl d_M_asked_136 ?_
      rw [hq6, eb]
      refine r_callVi (c_M_firmOf (A := A) hA hl hb _ (hat1 _)) lk_M_112 (by first | with_reducible assumption | rfl) d_M_asked_139 rfl rfl (Nat.le_of_ble_eq_true rfl) (by decide) ?_
      rw [rI_eq, ls3_f hb]
      refine r_iconst 1 d_M_asked_142 rfl ?_
      refine r_iadd d_M_asked_143 ?_
      refine r_callVv (c_M_firmBecomes (A := A) hA hl hb _ _ (hat1 _)) lk_M_180 (by first | with_reducible assumption | rfl) d_M_asked_144 rfl rfl (Nat.le_of_ble_eq_true rfl) (by decide) ?_
      rw [more_e ub, uI_rI, ls3_u1 hb]
      refine r_aload_n 0 d_M_asked_147 rfl rfl ?_
      refine r_getR fl_M_7 (by first | with_reducible assumption | rfl) rfl d_M_asked_148 ?_
      refine r_iload 4 d_M_asked_151 rfl ?_
      refine r_iconst 2 d_M_asked_153 rfl ?_
      refine r_iadd d_M_asked_154 ?_
      rw [add2]
      refine r_aload_n 0 d_M_asked_155 rfl rfl ?_
      refine r_getR fl_M_7 (by first | with_reducible assumption | rfl) rfl d_M_asked_156 ?_
      refine r_aload_n 0 d_M_asked_159 rfl rfl ?_
      refine r_getI fl_M_106 (by first | with_reducible assumption | rfl) rfl d_M_asked_160 ?_
      refine r_iconst 1 d_M_asked_163 rfl ?_
      refine r_iadd d_M_asked_164 ?_
      rw [hat1, ← nI_succ]
      refine r_ialdN (by first | with_reducible assumption | rfl) (show A + 1 < 884 by omega) d_M_asked_165 ?_
      rw [rI_eq, dayE]
      refine r_iastN (by first | with_reducible assumption | rfl) (show A + 4 + 110 * l + 3 * p + 2 < 884 by omega) d_M_asked_166 ?_
      rw [uI_rI, ls3_u3 hp]
      refine r_aload_n 0 d_M_asked_167 rfl rfl ?_
      refine r_iload_n 2 d_M_asked_168 rfl rfl ?_
      refine r_callVi (c9 _ (hq5 _) (hq6 _)) lk_M_177 (by first | with_reducible assumption | rfl) d_M_asked_169 rfl rfl (Nat.le_of_ble_eq_true rfl) (by decide) ?_
      refine r_iret .int d_M_asked_172 rfl rfl ?_
      exact ⟨rfl, rfl⟩
    · rw [if_neg h2]
      refine r_aload_n 0 d_M_asked_0 rfl rfl ?_
      refine r_iload_n 1 d_M_asked_1 rfl rfl ?_
      refine r_iload_n 2 d_M_asked_2 rfl rfl ?_
      refine r_iload_n 3 d_M_asked_3 rfl rfl ?_
      refine r_callVv c1 lk_M_173 (by first | with_reducible assumption | rfl) d_M_asked_4 rfl rfl (Nat.le_of_ble_eq_true rfl) (by decide) ?_
      refine Wa.eqM e0 ?_
      refine r_aload_n 0 d_M_asked_7 rfl rfl ?_
      refine r_iload_n 1 d_M_asked_8 rfl rfl ?_
      refine r_iload_n 2 d_M_asked_9 rfl rfl ?_
      refine r_callVi (c_M_place (A := A) _ (hat1 _)) lk_M_109 (by first | with_reducible assumption | rfl) d_M_asked_10 rfl rfl (Nat.le_of_ble_eq_true rfl) (by decide) ?_
      refine r_istore 4 [_, _, _, _, _] d_M_asked_13 (by decide) rfl ?_
      refine r_aload_n 0 d_M_asked_15 rfl rfl ?_
      refine r_getI fl_M_161 (by first | with_reducible assumption | rfl) rfl d_M_asked_16 ?_
      refine r_iconst 1 d_M_asked_19 rfl ?_
      rw [hq5]
      refine r_icmp_gt d_M_asked_20 (fun h20 => ?_) (fun h20 => absurd (Int32.not_le.mp hgt) h20)
      refine r_aload_n 0 d_M_asked_104 rfl rfl ?_
      refine r_getI fl_M_161 (by first | with_reducible assumption | rfl) rfl d_M_asked_105 ?_
      refine r_iconst 2 d_M_asked_108 rfl ?_
      rw [hq5]
      refine r_icmp_ne d_M_asked_109 (fun h109 => ?_) (fun h109 => absurd h109 h2)
      refine r_aload_n 0 d_M_asked_147 rfl rfl ?_
      refine r_getR fl_M_7 (by first | with_reducible assumption | rfl) rfl d_M_asked_148 ?_
      refine r_iload 4 d_M_asked_151 rfl ?_
      refine r_iconst 2 d_M_asked_153 rfl ?_
      refine r_iadd d_M_asked_154 ?_
      rw [add2]
      refine r_aload_n 0 d_M_asked_155 rfl rfl ?_
      refine r_getR fl_M_7 (by first | with_reducible assumption | rfl) rfl d_M_asked_156 ?_
      refine r_aload_n 0 d_M_asked_159 rfl rfl ?_
      refine r_getI fl_M_106 (by first | with_reducible assumption | rfl) rfl d_M_asked_160 ?_
      refine r_iconst 1 d_M_asked_163 rfl ?_
      refine r_iadd d_M_asked_164 ?_
      rw [hat1, ← nI_succ]
      refine r_ialdN (by first | with_reducible assumption | rfl) (show A + 1 < 884 by omega) d_M_asked_165 ?_
      rw [rI_eq, dayE]
      refine r_iastN (by first | with_reducible assumption | rfl) (show A + 4 + 110 * l + 3 * p + 2 < 884 by omega) d_M_asked_166 ?_
      rw [uI_rI, ls3_u3 hp]
      refine r_aload_n 0 d_M_asked_167 rfl rfl ?_
      refine r_iload_n 2 d_M_asked_168 rfl rfl ?_
      refine r_callVi (c9 _ (hq5 _) (hq6 _)) lk_M_177 (by first | with_reducible assumption | rfl) d_M_asked_169 rfl rfl (Nat.le_of_ble_eq_true rfl) (by decide) ?_
      refine r_iret .int d_M_asked_172 rfl rfl ?_
      exact ⟨rfl, rfl⟩
set_option maxHeartbeats 400000 in
theorem c_M_isTold {A l p : Nat} (hA : A ≤ 442) (hl : l < 4) (hp : p < 36) (μ : Me) (hat : μ.1 82 1 = nI A) (hO : LO (μ.1 83) A l) : CtV m_M_isTold 2 [.ref 82, .int (nI l), .int (nI p)] μ (uI μ 83 (A + 4 + 110 * l + 3 * p) (toldS (fM (μ.1 83) A l p))) := by
  refine Ct.of (ls := [.ref 82, .int (nI l), .int (nI p), flr]) rfl (Nat.le_of_ble_eq_true rfl) rfl (fun X => ?_)
  rw [← told_e (hO.2 p hp)]
  refine r_aload_n 0 d_M_isTold_0 rfl rfl ?_
  refine r_iload_n 1 d_M_isTold_1 rfl rfl ?_
  refine r_iload_n 2 d_M_isTold_2 rfl rfl ?_
  refine r_callVi (c_M_firmOf hA hl hp _ hat) lk_M_112 (by first | with_reducible assumption | rfl) d_M_isTold_3 rfl rfl (Nat.le_of_ble_eq_true rfl) (by decide) ?_
  refine r_istore_n 3 [_, _, _, _] d_M_isTold_6 rfl (by decide) rfl ?_
  refine r_aload_n 0 d_M_isTold_7 rfl rfl ?_
  refine r_iload_n 1 d_M_isTold_8 rfl rfl ?_
  refine r_iload_n 2 d_M_isTold_9 rfl rfl ?_
  refine r_iload_n 3 d_M_isTold_10 rfl rfl ?_
  refine r_bipush (100) d_M_isTold_11 (by decide) ?_
  refine r_iload_n 3 d_M_isTold_13 rfl rfl ?_
  refine r_isub d_M_isTold_14 ?_
  refine r_bipush (6) d_M_isTold_15 (by decide) ?_
  refine r_idiv d_M_isTold_17 (by first | decide | assumption) ?_
  refine r_iadd d_M_isTold_18 ?_
  refine r_iconst 1 d_M_isTold_19 rfl ?_
  refine r_iadd d_M_isTold_20 ?_
  refine r_callVv (c_M_firmBecomes hA hl hp _ _ hat) lk_M_180 (by first | with_reducible assumption | rfl) d_M_isTold_21 rfl rfl (Nat.le_of_ble_eq_true rfl) (by decide) ?_
  refine r_ret d_M_isTold_24 rfl ?_
  exact ⟨rfl, rfl⟩
set_option maxHeartbeats 400000 in
theorem c_M_ask_no {m : Nat} (hm : m ≤ 4) (l p t : Int32) (μ : Me) (hct : μ.1 83 0 = nI m) (hG : ¬ ((0 ≤ l ∧ l < nI m) ∧ (0 ≤ p ∧ p < 36) ∧ 1 ≤ t ∧ t ≤ 9)) : CtI m_M_ask 7 [.ref 82, .int l, .int p, .int t] μ (-1) μ := by
  refine Ct.of (ls := [.ref 82, .int l, .int p, .int t]) rfl (Nat.le_of_ble_eq_true rfl) rfl (fun X => ?_)
  refine r_aload_n 0 d_M_ask_0 rfl rfl ?_
  refine r_iload_n 1 d_M_ask_1 rfl rfl ?_
  refine r_callVi (c_M_isLearner hm _ _ hct) lk_M_115 (by first | with_reducible assumption | rfl) d_M_ask_2 rfl rfl (Nat.le_of_ble_eq_true rfl) (by decide) ?_
  refine r_if_eq d_M_ask_5 (fun h5 => ?_) (fun h5 => ?_)
  · refine r_iconst (-1) d_M_ask_32 rfl ?_
    refine r_iret .int d_M_ask_33 rfl rfl ?_
    exact ⟨rfl, rfl⟩
  · refine r_iload_n 2 d_M_ask_8 rfl rfl ?_
    refine r_callSi (c_M_isPair _ _) lk_M_91 d_M_ask_9 rfl rfl (Nat.le_of_ble_eq_true rfl) (by decide) ?_
    refine r_if_eq d_M_ask_12 (fun h12 => ?_) (fun h12 => ?_)
    · refine r_iconst (-1) d_M_ask_32 rfl ?_
      refine r_iret .int d_M_ask_33 rfl rfl ?_
      exact ⟨rfl, rfl⟩
    · refine r_iload_n 3 d_M_ask_15 rfl rfl ?_
      refine r_callSi (c_M_isTime _ _) lk_M_142 d_M_ask_16 rfl rfl (Nat.le_of_ble_eq_true rfl) (by decide) ?_
      refine r_if_eq d_M_ask_19 (fun h19 => ?_) (fun h19 => ?_)
      · refine r_iconst (-1) d_M_ask_32 rfl ?_
        refine r_iret .int d_M_ask_33 rfl rfl ?_
        exact ⟨rfl, rfl⟩
      · exact absurd ⟨bz_p h5, bz_p h12, bz_p h19⟩ hG
set_option maxHeartbeats 400000 in
theorem c_M_ask {m j p : Nat} (hm : m ≤ 4) (hj : j < m) (hp : p < 36) (t : Int32) (ht : 1 ≤ t ∧ t ≤ 9) (μ : Me) (hct : μ.1 83 0 = nI m) (hat : μ.1 82 1 = nI 0) (hO : LO (μ.1 83) 0 j) (hr : rM (μ.1 83) 0 j p ≤ 9) : CtI m_M_ask 7 [.ref 82, .int (nI j), .int (nI p), .int t] μ (fd (μ.1 83) 0 j p t (μ.1 84)).1 (rI (saM μ (fd (μ.1 83) 0 j p t (μ.1 84))) 83 (akG (μ.1 83) 0 j p (fd (μ.1 83) 0 j p t (μ.1 84)))) := by
  refine Ct.of (ls := [.ref 82, .int (nI j), .int (nI p), .int t]) rfl (Nat.le_of_ble_eq_true rfl) rfl (fun X => ?_)
  refine r_aload_n 0 d_M_ask_0 rfl rfl ?_
  refine r_iload_n 1 d_M_ask_1 rfl rfl ?_
  refine r_callVi (c_M_isLearner hm _ _ hct) lk_M_115 (by first | with_reducible assumption | rfl) d_M_ask_2 rfl rfl (Nat.le_of_ble_eq_true rfl) (by decide) ?_
  refine r_if_eq d_M_ask_5 (fun h5 => absurd h5 (bzy (nIb hj hm))) (fun h5 => ?_)
  refine r_iload_n 2 d_M_ask_8 rfl rfl ?_
  refine r_callSi (c_M_isPair _ _) lk_M_91 d_M_ask_9 rfl rfl (Nat.le_of_ble_eq_true rfl) (by decide) ?_
  refine r_if_eq d_M_ask_12 (fun h12 => absurd h12 (bzy (pIb hp))) (fun h12 => ?_)
  refine r_iload_n 3 d_M_ask_15 rfl rfl ?_
  refine r_callSi (c_M_isTime _ _) lk_M_142 d_M_ask_16 rfl rfl (Nat.le_of_ble_eq_true rfl) (by decide) ?_
  refine r_if_eq d_M_ask_19 (fun h19 => absurd h19 (bzy ht)) (fun h19 => ?_)
  refine r_aload_n 0 d_M_ask_22 rfl rfl ?_
  refine r_iload_n 1 d_M_ask_23 rfl rfl ?_
  refine r_iload_n 2 d_M_ask_24 rfl rfl ?_
  refine r_iload_n 3 d_M_ask_25 rfl rfl ?_
  refine r_callVi (c_M_asked (A := 0) (by decide) (show j < 4 by omega) hp t ht _ hat hO hr) lk_M_183 (by first | with_reducible assumption | rfl) d_M_ask_26 rfl rfl (Nat.le_of_ble_eq_true rfl) (by decide) ?_
  refine r_goto d_M_ask_29 ?_
  refine r_iret .int d_M_ask_33 rfl rfl ?_
  exact ⟨rfl, rfl⟩
set_option maxHeartbeats 400000 in
theorem c_M_tell_no {m : Nat} (hm : m ≤ 4) (l p : Int32) (μ : Me) (hct : μ.1 83 0 = nI m) (hG : ¬ ((0 ≤ l ∧ l < nI m) ∧ 0 ≤ p ∧ p < 36)) : CtI m_M_tell 3 [.ref 82, .int l, .int p] μ (-1) μ := by
  refine Ct.of (ls := [.ref 82, .int l, .int p]) rfl (Nat.le_of_ble_eq_true rfl) rfl (fun X => ?_)
  refine r_aload_n 0 d_M_tell_0 rfl rfl ?_
  refine r_iload_n 1 d_M_tell_1 rfl rfl ?_
  refine r_callVi (c_M_isLearner hm _ _ hct) lk_M_115 (by first | with_reducible assumption | rfl) d_M_tell_2 rfl rfl (Nat.le_of_ble_eq_true rfl) (by decide) ?_
  refine r_if_eq d_M_tell_5 (fun h5 => ?_) (fun h5 => ?_)
  · refine r_iconst (-1) d_M_tell_15 rfl ?_
    refine r_iret .int d_M_tell_16 rfl rfl ?_
    exact ⟨rfl, rfl⟩
  · refine r_iload_n 2 d_M_tell_8 rfl rfl ?_
    refine r_callSi (c_M_isPair _ _) lk_M_91 d_M_tell_9 rfl rfl (Nat.le_of_ble_eq_true rfl) (by decide) ?_
    refine r_if_ne d_M_tell_12 (fun h12 => ?_) (fun h12 => ?_)
    · exact absurd ⟨bz_p h5, bz_p h12⟩ hG
    · refine r_iconst (-1) d_M_tell_15 rfl ?_
      refine r_iret .int d_M_tell_16 rfl rfl ?_
      exact ⟨rfl, rfl⟩
set_option maxHeartbeats 400000 in
theorem c_M_tell {m j p : Nat} (hm : m ≤ 4) (hj : j < m) (hp : p < 36) (μ : Me) (hct : μ.1 83 0 = nI m) (hat : μ.1 82 1 = nI 0) (hO : LO (μ.1 83) 0 j) : CtI m_M_tell 3 [.ref 82, .int (nI j), .int (nI p)] μ (toldS (fM (μ.1 83) 0 j p)) (uI μ 83 (0 + 4 + 110 * j + 3 * p) (toldS (fM (μ.1 83) 0 j p))) := by
  refine Ct.of (ls := [.ref 82, .int (nI j), .int (nI p)]) rfl (Nat.le_of_ble_eq_true rfl) rfl (fun X => ?_)
  refine r_aload_n 0 d_M_tell_0 rfl rfl ?_
  refine r_iload_n 1 d_M_tell_1 rfl rfl ?_
  refine r_callVi (c_M_isLearner hm _ _ hct) lk_M_115 (by first | with_reducible assumption | rfl) d_M_tell_2 rfl rfl (Nat.le_of_ble_eq_true rfl) (by decide) ?_
  refine r_if_eq d_M_tell_5 (fun h5 => absurd h5 (bzy (nIb hj hm))) (fun h5 => ?_)
  refine r_iload_n 2 d_M_tell_8 rfl rfl ?_
  refine r_callSi (c_M_isPair _ _) lk_M_91 d_M_tell_9 rfl rfl (Nat.le_of_ble_eq_true rfl) (by decide) ?_
  refine r_if_ne d_M_tell_12 (fun h12 => ?_) (fun h12 => absurd h12 (bzy (pIb hp)))
  refine r_aload_n 0 d_M_tell_17 rfl rfl ?_
  refine r_iload_n 1 d_M_tell_18 rfl rfl ?_
  refine r_iload_n 2 d_M_tell_19 rfl rfl ?_
  refine r_callVv (c_M_isTold (A := 0) (by decide) (show j < 4 by omega) hp _ hat hO) lk_M_186 (by first | with_reducible assumption | rfl) d_M_tell_20 rfl rfl (Nat.le_of_ble_eq_true rfl) (by decide) ?_
  refine r_aload_n 0 d_M_tell_23 rfl rfl ?_
  refine r_iload_n 1 d_M_tell_24 rfl rfl ?_
  refine r_iload_n 2 d_M_tell_25 rfl rfl ?_
  refine r_callVi (c_M_firmOf (A := 0) (by decide) (show j < 4 by omega) hp _ (by rw [uI_ne (by decide)]; exact hat)) lk_M_112 (by first | with_reducible assumption | rfl) d_M_tell_26 rfl rfl (Nat.le_of_ble_eq_true rfl) (by decide) ?_
  refine r_iret .int d_M_tell_29 rfl rfl ?_
  exact ⟨by rw [fM, uI_at], rfl⟩
