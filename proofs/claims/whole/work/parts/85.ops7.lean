/-! acts, the lesson -/
set_option maxHeartbeats 400000 in
theorem c_S_act_bd {s w : Int32} (x : Int32) (hP : ¬ ((0 ≤ s ∧ s < 4) ∧ 0 ≤ w ∧ w ≤ 3)) (μ : Me) : CtI m_S_act 10 [.ref 0, .int s, .int w, .int x] μ 0 (uI (uI μ 68 5 0) 68 3 0) := by
  refine Ct.of (ls := [.ref 0, .int s, .int w, .int x, flr, flr, flr]) rfl (Nat.le_of_ble_eq_true rfl) rfl (fun X => ?_)
  refine r_aload_n 0 d_S_act_0 rfl rfl ?_
  refine r_getR fl_S_87 (by first | with_reducible assumption | rfl) rfl d_S_act_1 ?_
  refine r_callVv (c_Doer_clear _) lk_S_369 (by first | with_reducible assumption | rfl) d_S_act_4 rfl rfl (Nat.le_of_ble_eq_true rfl) (by decide) ?_
  refine r_iload_n 1 d_S_act_7 rfl rfl ?_
  refine r_callSi (c_S_isShelf _ _) lk_S_345 d_S_act_8 rfl rfl (Nat.le_of_ble_eq_true rfl) (by decide) ?_
  refine r_if_eq d_S_act_11 (fun h11 => ?_) (fun h11 => ?_)
  · refine r_iconst 0 d_S_act_22 rfl ?_
    refine r_iret .int d_S_act_23 rfl rfl ?_
    exact ⟨rfl, rfl⟩
  · refine r_iload_n 2 d_S_act_14 rfl rfl ?_
    refine r_iconst 3 d_S_act_15 rfl ?_
    refine r_callSi (c_S_isWithin _ _ _) lk_S_118 d_S_act_16 rfl rfl (Nat.le_of_ble_eq_true rfl) (by decide) ?_
    refine r_if_ne d_S_act_19 (fun h19 => absurd (bz_0.mpr (fun z => hP ⟨bz_p h11, z⟩)) h19) (fun h19 => ?_)
    refine r_iconst 0 d_S_act_22 rfl ?_
    refine r_iret .int d_S_act_23 rfl rfl ?_
    exact ⟨rfl, rfl⟩
set_option maxHeartbeats 400000 in
theorem c_S_act_nn {j m : Nat} (hj : j < 4) (w x : Int32) (hw : 0 ≤ w ∧ w ≤ 3) (μ : Me) (hct : μ.1 1 1 = nI m) (hl : ¬ (0 ≤ μ.1 (78 + 1 * j) 0 ∧ μ.1 (78 + 1 * j) 0 < nI m)) : CtI m_S_act 10 [.ref 0, .int (nI j), .int w, .int x] μ 0 (uI (uI μ 68 5 0) 68 3 0) := by
  refine Ct.of (ls := [.ref 0, .int (nI j), .int w, .int x, flr, flr, flr]) rfl (Nat.le_of_ble_eq_true rfl) rfl (fun X => ?_)
  have s0 : shp[78 + 1 * j]? = some (.inl (8, [0, 0, 0])) := isSf_s j hj
  have hno := lr_no hl
  rw [← hct] at hno
  refine r_aload_n 0 d_S_act_0 rfl rfl ?_
  refine r_getR fl_S_87 (by first | with_reducible assumption | rfl) rfl d_S_act_1 ?_
  refine r_callVv (c_Doer_clear _) lk_S_369 (by first | with_reducible assumption | rfl) d_S_act_4 rfl rfl (Nat.le_of_ble_eq_true rfl) (by decide) ?_
  refine r_iload_n 1 d_S_act_7 rfl rfl ?_
  refine r_callSi (c_S_isShelf _ _) lk_S_345 d_S_act_8 rfl rfl (Nat.le_of_ble_eq_true rfl) (by decide) ?_
  refine r_if_eq d_S_act_11 (fun h11 => absurd h11 (fun z => bz_np z (f4_yes hj))) (fun h11 => ?_)
  refine r_iload_n 2 d_S_act_14 rfl rfl ?_
  refine r_iconst 3 d_S_act_15 rfl ?_
  refine r_callSi (c_S_isWithin _ _ _) lk_S_118 d_S_act_16 rfl rfl (Nat.le_of_ble_eq_true rfl) (by decide) ?_
  refine r_if_ne d_S_act_19 (fun h19 => ?_) (fun h19 => absurd h19 (fun z => bz_np z hw))
  refine r_aload_n 0 d_S_act_24 rfl rfl ?_
  refine r_getR fl_S_80 (by first | with_reducible assumption | rfl) rfl d_S_act_25 ?_
  refine r_iload_n 1 d_S_act_28 rfl rfl ?_
  refine r_aald5N (by first | with_reducible assumption | rfl) (by decide) (by first | with_reducible assumption | omega | decide | assumption) d_S_act_29 ?_
  refine r_astore 4 [_, _, _, _, _, _, _] d_S_act_30 (by decide) rfl ?_
  refine r_aload_n 0 d_S_act_32 rfl rfl ?_
  refine r_getR fl_S_12 (by first | with_reducible assumption | rfl) rfl d_S_act_33 ?_
  refine r_aload 4 d_S_act_36 rfl ?_
  refine r_getI fl_S_363 (by first | with_reducible assumption | rfl) rfl d_S_act_38 ?_
  rw [uI_ne (by omega), uI_ne (by omega)]
  refine r_callVa (c_School_learnerAt_no _ _ (by rw [uI_ne (by decide), uI_ne (by decide)]; exact hno)) lk_S_127 (by first | with_reducible assumption | rfl) d_S_act_41 rfl rfl (Nat.le_of_ble_eq_true rfl) (by decide) ?_
  refine r_astoreN 5 [_, _, _, _, _, _, _] d_S_act_44 (by decide) rfl ?_
  refine r_aloadN 5 d_S_act_46 rfl ?_
  refine r_ifnonnullN d_S_act_48 ?_
  refine r_iconst 0 d_S_act_51 rfl ?_
  refine r_iret .int d_S_act_52 rfl rfl ?_
  exact ⟨rfl, rfl⟩
/-- traces alike as far as they go -/
def eqD (s s' : DS) : Prop := s.1 = s'.1 ∧ s.2.1 = s'.2.1 ∧ ∀ i, i < s.2.1 → s.2.2 i = s'.2.2 i
def eqR (r r' : Int32 × DS) : Prop := r.1 = r'.1 ∧ eqD r.2 r'.2
theorem eqD.beg {s s' : DS} (h : eqD s s') (b : Int32) : eqD (begD s b) (begD s' b) := by
  unfold begD
  rw [← h.2.1]
  by_cases hl : s.2.1 < 30
  · rw [if_pos hl, if_pos hl]
    refine ⟨h.1, rfl, fun i hi => ?_⟩
    show upd s.2.2 s.2.1 b i = upd s'.2.2 s.2.1 b i
    by_cases e : i = s.2.1
    · subst e
      rw [pk_us, pk_us]
    · rw [pk_un e, pk_un e]
      exact h.2.2 i (by have : i < s.2.1 + 1 := hi; omega)
  · rw [if_neg hl, if_neg hl]
    exact h
section Alike
variable {k n a x : Int32} {s s' : DS}
theorem pSay_e (h : eqD s s') : eqR (pSay n x s) (pSay n x s') := ⟨rfl, h.beg 10⟩
theorem rSay_e (h : eqD s s') : eqR (rSay n x s) (rSay n x s') := by
  have z := pSay_e (n := n) (x := x) (h.beg 30)
  exact ⟨congrArg (· * 3) z.1, z.2⟩
theorem saysP_e (h : eqD s s') : eqR (saysP k n x s) (saysP k n x s') := by
  unfold saysP
  by_cases h2 : k = 2
  · rw [if_pos h2, if_pos h2]
    exact rSay_e h
  · rw [if_neg h2, if_neg h2]
    by_cases h3 : k = 3
    · rw [if_pos h3, if_pos h3]
      have z := rSay_e (n := n) (x := x) (h.beg 40)
      exact ⟨congrArg (0 - ·) z.1, z.2⟩
    · rw [if_neg h3, if_neg h3]
      by_cases h4 : k = 4
      · rw [if_pos h4, if_pos h4]
        have z := pSay_e (n := n) (x := x) (h.beg 51)
        exact ⟨congrArg (· - n) z.1, z.2⟩
      · rw [if_neg h4, if_neg h4]
        exact pSay_e h
theorem pLrn_e (h : eqD s s') : eqR (pLrn k n x s) (pLrn k n x s') := by
  have z := saysP_e (k := k) (n := n) (x := x) (h.beg 11)
  exact ⟨congrArg (· * 2) z.1, z.2⟩
theorem lrnP_e (h : eqD s s') : eqR (lrnP k n a x s) (lrnP k n a x s') := by
  unfold lrnP
  by_cases h2 : k = 1 ∨ k = 4
  · rw [if_pos h2, if_pos h2]
    have z := pLrn_e (k := k) (n := n) (x := x) (h.beg 20)
    exact ⟨congrArg (· - a) z.1, z.2⟩
  · rw [if_neg h2, if_neg h2]
    by_cases h3 : k = 3
    · rw [if_pos h3, if_pos h3]
      have z := pLrn_e (k := k) (n := n) (x := x) (h.beg 41)
      have y := saysP_e (k := k) (n := n) (x := n) z.2
      exact ⟨by show _ + _ = _ + _; rw [z.1, y.1], y.2⟩
    · rw [if_neg h3, if_neg h3]
      exact pLrn_e h
theorem pShr_e (h : eqD s s') : eqR (pShr n a x s) (pShr n a x s') := by
  unfold pShr
  by_cases h2 : a = n
  · rw [if_pos h2, if_pos h2]
    exact ⟨rfl, rfl, (h.beg 12).2.1, (h.beg 12).2.2⟩
  · rw [if_neg h2, if_neg h2]
    exact ⟨rfl, h.beg 12⟩
theorem shrP_e (h : eqD s s') : eqR (shrP k n a x s) (shrP k n a x s') := by
  unfold shrP
  by_cases h2 : k = 4
  · rw [if_pos h2, if_pos h2]
    have z := pShr_e (n := n) (a := a) (x := x + 2) (h.beg 50)
    exact ⟨congrArg (· ^^^ 1) z.1, z.2⟩
  · rw [if_neg h2, if_neg h2]
    by_cases h3 : k = 5
    · rw [if_pos h3, if_pos h3]
      have z := pShr_e (n := n) (a := a) (x := x) (h.beg 61)
      have y := saysP_e (k := k) (n := n) (x := a) z.2
      rw [← z.2.1]
      by_cases h4 : (pShr n a x (begD s 61)).2.1 = true
      · rw [if_pos h4, if_pos h4]
        exact ⟨rfl, z.2⟩
      · rw [if_neg h4, if_neg h4]
        exact ⟨by show _ + _ = _ + _; rw [z.1, y.1], y.2⟩
    · rw [if_neg h3, if_neg h3]
      exact pShr_e h
theorem pTel_e (h : eqD s s') : eqR (pTel k n a x s) (pTel k n a x s') := by
  have z := lrnP_e (k := k) (n := n) (a := a) (x := x) (h.beg 13)
  exact ⟨congrArg (· ^^^ a) z.1, z.2⟩
theorem telP_e (h : eqD s s') : eqR (telP k n a x s) (telP k n a x s') := by
  unfold telP
  by_cases h2 : k = 2 ∨ k = 3
  · rw [if_pos h2, if_pos h2]
    have z := pTel_e (k := k) (n := n) (a := a) (x := x) (h.beg 31)
    have y := shrP_e (k := k) (n := n) (a := a) (x := n) z.2
    exact ⟨by show _ + _ = _ + _; rw [z.1, y.1], y.2⟩
  · rw [if_neg h2, if_neg h2]
    by_cases h3 : k = 5
    · rw [if_pos h3, if_pos h3]
      have z := pTel_e (k := k) (n := n) (a := a) (x := x) (h.beg 60)
      exact ⟨congrArg (· * 2) z.1, z.2⟩
    · rw [if_neg h3, if_neg h3]
      exact pTel_e h
theorem mdP_e {w : Int32} (h : eqD s s') : eqR (mdP w k n a x s) (mdP w k n a x s') := by
  unfold mdP
  by_cases h0 : w = 0
  · rw [if_pos h0, if_pos h0]
    exact saysP_e h
  · rw [if_neg h0, if_neg h0]
    by_cases h1 : w = 1
    · rw [if_pos h1, if_pos h1]
      exact lrnP_e h
    · rw [if_neg h1, if_neg h1]
      by_cases h2 : w = 2
      · rw [if_pos h2, if_pos h2]
        exact shrP_e h
      · rw [if_neg h2, if_neg h2]
        exact telP_e h
end Alike
theorem mdP_l {w k n a x : Int32} {s : DS} (h : s.2.1 ≤ 30) : (mdP w k n a x s).2.2.1 ≤ 30 := by
  unfold mdP
  by_cases h0 : w = 0
  · rw [if_pos h0]
    exact saysP_l h
  · rw [if_neg h0]
    by_cases h1 : w = 1
    · rw [if_pos h1]
      exact lrnP_l h
    · rw [if_neg h1]
      by_cases h2 : w = 2
      · rw [if_pos h2]
        exact shrP_l h
      · rw [if_neg h2]
        unfold telP
        by_cases h3 : k = 2 ∨ k = 3
        · rw [if_pos h3]
          exact shrP_l (pTel_l (begD_le h))
        · rw [if_neg h3]
          by_cases h4 : k = 5
          · rw [if_pos h4]
            exact pTel_l (begD_le h)
          · rw [if_neg h4]
            exact pTel_l h
theorem RRx.act0 {m n D s : Nat} {μ : Me} (h : RRx m n D s μ) : RRx m n D s (uI (uI (uI μ 68 5 0) 68 3 0) 82 35 0) := by
  refine h.setD ⟨fun c h1 h2 => ?_, fun j h1 h2 => ?_, fun i _ => ?_, fun _ _ _ => rfl⟩ ⟨0, by omega, ⟨?_, ?_⟩, fun i hi => absurd hi (by omega)⟩
  · unfold scr at h1
    unfold pD at h2
    rw [uI_ne (by omega), uI_ne (by omega), uI_ne (by omega)]
  · rw [uI_off h2, uI_ne (by decide), uI_ne (by decide)]
  · rw [uI_ne (by decide), uI_ne (by decide), uI_ne (by decide)]
  · rw [uI_ne (by decide), uI_off (by decide), uI_at]; rfl
  · rw [uI_at]; rfl
theorem op_act {m n D s : Nat} {μ : Me} (hD : D ≤ 108 * s) (h : RRx m n D s μ) (t w x : Int32) : OpI m_S_act 10 m_M_act 8 [.int t, .int w, .int x] μ s := by
  have hm := SRx.m4 h.sc
  have hc := h.sc.cls
  have a0 : ∀ c, c ≠ 68 → (uI (uI μ 68 5 0) 68 3 0).1 c = μ.1 c := fun c hc' => by rw [uI_ne hc', uI_ne hc']
  have no : (¬ ((0 ≤ t ∧ t < 4) ∧ 0 ≤ w ∧ w ≤ 3) ∨ (∀ j, t = nI j → j < 4 → ¬ (0 ≤ knS3 (μ.1 83) m (μ.1 96 j) (μ.1 97 j) ∧ knS3 (μ.1 83) m (μ.1 96 j) (μ.1 97 j) ≤ 5))) → CtI m_M_act 8 [.ref 82, .int t, .int w, .int x] (uI (uI μ 68 5 0) 68 3 0) 0 (uI (uI (uI μ 68 5 0) 68 3 0) 82 35 0) := fun z => by
    have := c_M_act_no (j := 0) hm t w x (uI (uI μ 68 5 0) 68 3 0) (by rw [a0 83 (by decide)]; exact h.sc.ref) (by rw [a0 82 (by decide)]; exact h.at0) (by rw [a0 83 (by decide), a0 96 (by decide), a0 97 (by decide)]; exact z)
    exact this
  by_cases hG : (0 ≤ t ∧ t < 4) ∧ 0 ≤ w ∧ w ≤ 3
  · obtain ⟨j, hj, rfl⟩ := f4 hG.1
    have one : ∀ v : Int32, ¬ (0 ≤ v ∧ v ≤ 5) → knS3 (μ.1 83) m (μ.1 96 j) (μ.1 97 j) = v → CtI m_M_act 8 [.ref 82, .int (nI j), .int w, .int x] (uI (uI μ 68 5 0) 68 3 0) 0 (uI (uI (uI μ 68 5 0) 68 3 0) 82 35 0) := fun v hv e => no (Or.inr (fun j' ej hj' => by
      obtain rfl : j = j' := (nI_eq (by omega) (by omega)).mp ej
      rw [e]
      exact hv))
    rcases h.2.2.2.2.2.2.1 j hj with ⟨f0, f1, f2⟩ | ⟨q, hq, f0, f1, f2, f3⟩ | ⟨f0, f1, f2, f3, f4'⟩
    · exact opI (c_S_act_nn hj w x hG.2 μ hc (by rw [f0]; exact fun z => absurd z.1 (by decide))) (one (-1) (by decide) (kn3_no f2)) rfl (show D ≤ _ by omega) h.up.act0
    · by_cases hqm : q < m
      · obtain ⟨k, hk, ek⟩ := (SRx.hd h.sc q hqm).2.1
        obtain ⟨w, hw, rfl⟩ := fNl (N := 3) (by decide) hG.2
        have H : Hd μ.1 (8 + 4 * q) (μ.1 83) 0 q := SRx.hd h.sc q hqm
        obtain ⟨v, hv, hvf⟩ := rn_md (k := k) (w := w) hk (by omega) (n := nI q) (a := μ.1 (8 + 4 * q) 1) (x := x) (s := act0 μ) rfl
        have c1 := c_S_act hj hm hqm hk w (by omega) x μ hc f0 (H.1.1.trans ek) v _ hv
        have Z := mdP_e (w := nI w) (k := nI k) (n := nI q) (a := μ.1 (8 + 4 * q) 1) (x := x) (s := act0 μ) (s' := (false, 0, μ.1 99)) ⟨rfl, rfl, fun i hi => absurd hi (Nat.not_lt_zero i)⟩
        have hl := mdP_l (w := nI w) (k := nI k) (n := nI q) (a := μ.1 (8 + 4 * q) 1) (x := x) (s := act0 μ) (Nat.zero_le _)
        generalize eT : mdP (nI w) (nI k) (nI q) (μ.1 (8 + 4 * q) 1) x (act0 μ) = T at c1 Z hvf hl
        have aa : ∀ c, c ≠ 68 → c ≠ 69 → (dM (actD μ (nI k) (nI q) (μ.1 (8 + 4 * q) 1)) T.2).1 c = μ.1 c := fun c h1 h2 => by rw [dM_ne h1 h2, actD, uI_ne h1, uI_ne h1, uI_ne h1]
        have c2 := c_M_act hj hm hqm (nI w) x hG.2 (dM (actD μ (nI k) (nI q) (μ.1 (8 + 4 * q) 1)) T.2) (by rw [aa 83 (by decide) (by decide)]; exact h.sc.ref) (by rw [aa 82 (by decide) (by decide)]; exact h.at0) (by rw [aa 96 (by decide) (by decide)]; exact f2) (by rw [aa 97 (by decide) (by decide)]; exact f3) (by rw [aa 83 (by decide) (by decide), ek]; exact ⟨nI_pos' (by omega), nI_le (b := 5) (by omega) (by decide)⟩)
        rw [aa 83 (by decide) (by decide), aa 99 (by decide) (by decide), ek, ← H.1.2] at c2
        generalize eT' : mdP (nI w) (nI k) (nI q) (μ.1 (8 + 4 * q) 1) x (false, 0, μ.1 99) = T' at c2 Z
        refine opI c1 c2 ?_ (show D ≤ _ by omega) (h.up.setD ⟨fun c h1 h2 => ?_, fun i h1 h2 => ?_, fun i _ => ?_, fun _ _ _ => rfl⟩ ⟨T.2.2.1, hl, ⟨?_, ?_⟩, fun i hi => ?_⟩)
        · rw [← Z.2.1]
          by_cases hp : T.2.1 = true
          · rw [if_pos hp, if_pos hp]
          · rw [if_neg hp, if_neg hp, ← Z.1]
            exact (hvf (by cases hb : T.2.1 with | false => rfl | true => exact absurd hb hp)).symm
        · unfold scr at h1
          unfold pD at h2
          rw [dN_ne (by omega) (by omega), acN, uI_ne (by omega), uI_ne (by omega), uI_ne (by omega), aa c (by omega) (by omega)]
        · unfold scj at h1
          rw [dN_lo h2 (by omega), acN, uI_off (by omega), uI_off (by omega), uI_off (by omega), aa 82 (by decide) (by decide)]
        · rw [dN_ne (by omega) (by omega), acN, uI_ne (by omega), uI_ne (by omega), uI_ne (by omega), aa 83 (by omega) (by omega)]
        · rw [dN_ne (by omega) (by omega), acN, uI_ne (by omega), uI_ne (by omega), uI_ne (by omega), dM_5]
        · rw [dN_35, ← Z.2.2.1]
        · rw [dN_ne (by omega) (by omega), acN, uI_ne (by omega), uI_ne (by omega), uI_ne (by omega), dM_69, dN_99]
          exact Z.2.2.2 i hi
      · exact opI (c_S_act_nn hj w x hG.2 μ hc (by rw [f0]; exact fun z => absurd z.2 (nI_nlt (by omega) (by omega)))) (one (-1) (by decide) (kn3_out f2 f3 hq (by omega))) rfl (show D ≤ _ by omega) h.up.act0
    · exact opI (c_S_act_nn hj w x hG.2 μ hc (by rw [f0]; exact fun z => absurd z.1 (by decide))) (one 9 (by decide) (kn3_row f3)) rfl (show D ≤ _ by omega) h.up.act0
  · exact opI (c_S_act_bd x hG μ) (no (Or.inl hG)) rfl (show D ≤ _ by omega) h.up.act0
theorem les_ex (u : Nat → Nat) (N : Nat) : ∀ r i, i + r = 12 → (∀ j, j < i → gdI u N j) → ∃ k, k ≤ 12 ∧ (∀ j, j < k → gdI u N j) ∧ (N ≤ sb u N (ps u N k) ∨ (sb u N (ps u N k) < N ∧ (k < 12 → ¬ itK u N (ps u N k))))
  | 0, i, hi, hg => by
    refine ⟨i, by omega, hg, ?_⟩
    by_cases hN : N ≤ sb u N (ps u N i)
    · exact Or.inl hN
    · exact Or.inr ⟨by omega, fun z => absurd z (by omega)⟩
  | r + 1, i, hi, hg => by
    by_cases hN : N ≤ sb u N (ps u N i)
    · exact ⟨i, by omega, hg, Or.inl hN⟩
    · by_cases hk : itK u N (ps u N i)
      · refine les_ex u N r (i + 1) (by omega) (fun j hj => ?_)
        by_cases e : j = i
        · subst e
          exact ⟨by omega, hk⟩
        · exact hg j (by omega)
      · exact ⟨i, by omega, hg, Or.inr ⟨by omega, fun _ => hk⟩⟩
theorem itV_ok {u : Nat → Nat} {N p : Nat} (hk : itK u N p) : ((itV u N p).1 = 0 ∧ (∃ q, q < 36 ∧ (itV u N p).2.1 = nI q) ∧ 1 ≤ (itV u N p).2.2 ∧ (itV u N p).2.2 ≤ 9) ∨ ((itV u N p).1 = 1 ∧ ∃ q, q < 36 ∧ (itV u N p).2.1 = nI q) ∨ ((itV u N p).1 = 2 ∧ ∃ q, q ≤ 9 ∧ (itV u N p).2.1 = nI q) := by
  unfold itK at hk
  by_cases k0 : nmOk u N 0 p
  · rw [if_pos k0] at hk
    rw [itV, if_pos k0]
    have h9 := hk.2.1.2
    exact Or.inl ⟨rfl, prV_n hk.1.1, nI_le (a := 1) h9.1 (by omega), nI_le (b := 9) h9.2 (by decide)⟩
  · rw [if_neg k0] at hk
    by_cases k2 : nmOk u N 2 p
    · rw [if_pos k2] at hk
      rw [itV, if_neg k0, if_pos k2]
      exact Or.inr (Or.inl ⟨rfl, prV_n hk.1⟩)
    · rw [if_neg k2] at hk
      by_cases k3 : nmOk u N 3 p
      · rw [if_pos k3] at hk
        rw [itV, if_neg k0, if_neg k2]
        exact Or.inr (Or.inr ⟨rfl, _, hk.1.2.2, rfl⟩)
      · rw [if_neg k3] at hk
        exact hk.elim
theorem op_lesson {m n D s : Nat} {μ : Me} (hD : D ≤ 108 * s) (h : RRx m n D s μ) : OpI m_S_lesson 8 m_M_lesson 5 [] μ s := by
  have hm := SRx.m4 h.sc
  obtain ⟨u, N, a, b⟩ := h.2.2.2.1
  obtain ⟨k, hk, hg, hx⟩ := les_ex u N 12 0 rfl (fun j hj => absurd hj (Nat.not_lt_zero j))
  unfold OpI
  rcases hx with he | ⟨he, hno⟩
  · refine Ct.mono (fun r μ1 z => ?_) (c_S_lesson_ok a hk hg he)
    obtain ⟨rfl, z1, z2, z3, z4, z5⟩ := z
    have zc : ∀ c, c < 4 ∨ (7 < c ∧ c < 47) ∨ c = 48 ∨ 52 < c → μ1.1 c = μ.1 c := fun c hc' => z4 c (by unfold lcs; omega)
    refine ⟨nI k, rfl, Ct.mono (fun r' μ2 y => ?_) (c_M_lesson_ok (μ := μ1) (u := u) (N := N) ⟨by rw [zc 82 (by omega)]; exact b.1, b.2.1, by rw [zc 88 (by omega)]; exact b.2.2⟩ hk hg he)⟩
    obtain ⟨rfl, y1, y2, y3, y4, y5, y6⟩ := y
    have cc : ∀ c, c < 4 ∨ (7 < c ∧ c < 47) ∨ c = 48 ∨ (52 < c ∧ c ≠ 82 ∧ c ≠ 89 ∧ c ≠ 90) → μ2.1 c = μ.1 c := fun c hc' => by rw [y4 c (by omega) (by omega) (by omega), zc c (by omega)]
    have cj : ∀ j, j < 11 ∨ 18 < j → μ2.1 82 j = μ.1 82 j := fun j hj => by rw [y5 j (by unfold lmj; omega), zc 82 (by omega)]
    have cl : ∀ c, c ≠ 82 → μ2.2 c = μ.2 c := fun c hc' => by rw [y6 c hc', z5]
    obtain ⟨h1, h2, h3, h4, h5, h6, h7, h8⟩ := h.up
    refine ⟨rfl, m, k, D, by omega, h1.fr (cj 1 (by omega)) (cc 85 (by omega)), ?_, h3.fr (cc 0 (by omega)) (fun c hc' => cc c (by omega)) (cc 100 (by omega)) (cj 37 (by omega)), ⟨u, 0, ⟨?_, by omega, fun i hi => absurd hi (Nat.not_lt_zero i)⟩, ⟨y3, by omega, fun i hi => absurd hi (Nat.not_lt_zero i)⟩⟩,
      h5.fr (cc 62 (by omega)) (cc 63 (by omega)) (cj 23 (by omega)) (cc 91 (by omega)), h6.fr (fun c hc' => ⟨cc c (by omega), cl c (by omega)⟩) (cc 93 (by omega)) (cc 94 (by omega)) (cl 95 (by decide)), h7.fr (fun c hc' => cc c (by omega)) (cc 96 (by omega)) (cc 97 (by omega)) (cc 98 (by omega)), h8.fr (by rw [cc 68 (by omega)]) (cc 69 (by omega)) (cj 35 (by omega)) (cc 99 (by omega))⟩
    · refine ⟨⟨hm, hk⟩, ⟨by rw [cc 1 (by omega)]; exact SRx.cM h2, by rw [cc 83 (by omega)]; exact SRx.cg h2⟩, ⟨by rw [cc 1 (by omega)]; exact SRx.dM h2, by rw [cc 83 (by omega)]; exact SRx.dg h2⟩, by rw [cc 1 (by omega), cj 4 (by omega)]; exact SRx.zz h2, ⟨fun q hq => by rw [cc (1 + 2) (by omega), cc 84 (by omega)]; exact SRx.ww h2 q hq, by rw [cc 84 (by omega)]; exact SRx.w50 h2⟩, ⟨by rw [y4 (1 + 3) (by decide) (by decide) (by decide)]; exact z1, y1, fun i hi => ?_⟩, fun l hl => ?_⟩
      · obtain ⟨a1, a2, a3⟩ := z2 i hi
        obtain ⟨b1, b2, b3⟩ := y2 i hi
        refine ⟨⟨?_, ?_, ?_⟩, ?_⟩
        · rw [y4 (1 + 4) (by decide) (by decide) (by decide), b1]
          exact a1
        · rw [y4 (1 + 5) (by decide) (by decide) (by decide), b2]
          exact a2
        · rw [y4 (1 + 6) (by decide) (by decide) (by decide), b3]
          exact a3
        · unfold IT
          rw [b1, b2, b3]
          exact itV_ok (hg i hi).2
      · rw [cc 83 (by omega)]
        exact (SRx.hd h2 l hl).fr (cc _ (by omega)) (cc _ (by omega)) (cc _ (by omega)) (cc _ (by omega))
    · rw [y4 47 (by decide) (by decide) (by decide)]
      exact z3
  · refine Ct.mono (fun r μ1 z => ?_) (c_S_lesson_bad a hk hg he hno)
    obtain ⟨rfl, z1, z2, z3⟩ := z
    refine ⟨_, rfl, Ct.mono (fun r' μ2 y => ?_) (c_M_lesson_bad (μ := μ1) (u := u) (N := N) ⟨by rw [z2 82 (by decide) (by omega)]; exact b.1, b.2.1, by rw [z2 88 (by decide) (by omega)]; exact b.2.2⟩ hk hg he hno)⟩
    obtain ⟨rfl, y1, y2, y3, y4, y5⟩ := y
    refine ⟨rfl, m, n, D, by omega, h.up.setT ⟨fun c h1 h2 => ?_, fun j h1 h2 => ?_, fun i _ => ?_, fun c h1 _ => ?_⟩ ⟨u, 0, ⟨?_, by omega, fun i hi => absurd hi (Nat.not_lt_zero i)⟩, ⟨y1, by omega, fun i hi => absurd hi (Nat.not_lt_zero i)⟩⟩⟩
    · unfold scr at h1
      unfold pT at h2
      rw [y2 c (by omega) (by omega), z2 c (by omega) (by omega)]
    · unfold scj at h1
      by_cases e : j = 18
      · subst e
        rw [y4, z2 82 (by decide) (by omega)]
      · rw [y3 j (by unfold lmj; omega), z2 82 (by decide) (by omega)]
    · rw [y2 83 (by decide) (by decide), z2 83 (by decide) (by omega)]
    · rw [y5 c h1, z3]
    · rw [y2 47 (by decide) (by decide)]
      exact z1
