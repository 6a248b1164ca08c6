/-- the first place with the most, among the first i + 1 -/
def mxF (g : Nat → Int32) : Nat → Nat
  | 0 => 0
  | i + 1 => if g (mxF g i) < g (i + 1) then i + 1 else mxF g i
theorem mxF_le (g : Nat → Int32) : ∀ i, mxF g i ≤ i
  | 0 => Nat.le_refl _
  | i + 1 => by
    have := mxF_le g i
    rw [mxF]
    split <;> omega
def drwS (g : Nat → Int32) (w : Int32) : Int32 := if g (mxF g 35) = 0 then -3 else if w = 0 then nI (mxF g 35) else g (mxF g 35)
set_option maxHeartbeats 400000 in
theorem c_S_draws_no {m : Nat} (l t w : Int32) (μ : Me) (hct : μ.1 1 1 = nI m) (hm : m ≤ 4) (hG : ¬ ((0 ≤ l ∧ l < nI m) ∧ (1 ≤ t ∧ t ≤ 9) ∧ 0 ≤ w ∧ w ≤ 1)) : CtI m_S_draws 6 [.ref 0, .int l, .int t, .int w] μ (-1) μ := by
  refine Ct.of (ls := [.ref 0, .int l, .int t, .int w, flr, flr, flr]) rfl (Nat.le_of_ble_eq_true rfl) rfl (fun X => ?_)
  by_cases hg : 0 ≤ l ∧ l < nI m
  · obtain ⟨j, hj, rfl⟩ := lr_yes hm hg
    refine r_aload_n 0 d_S_draws_0 rfl rfl ?_
    refine r_getR fl_S_12 (by first | with_reducible assumption | rfl) rfl d_S_draws_1 ?_
    refine r_iload_n 1 d_S_draws_4 rfl rfl ?_
    refine r_callVa (c_School_learnerAt_yes j m hj hm _ hct) lk_S_127 (by first | with_reducible assumption | rfl) d_S_draws_5 rfl rfl (Nat.le_of_ble_eq_true rfl) (by decide) ?_
    refine r_astore 4 [_, _, _, _, _, _, _] d_S_draws_8 (by decide) rfl ?_
    refine r_aload 4 d_S_draws_10 rfl ?_
    refine r_ifnull d_S_draws_12 ?_
    refine r_iload_n 2 d_S_draws_15 rfl rfl ?_
    refine r_callSi (c_S_isSeconds _ _) lk_S_190 d_S_draws_16 rfl rfl (Nat.le_of_ble_eq_true rfl) (by decide) ?_
    refine r_if_eq d_S_draws_19 (fun h19 => ?_) (fun h19 => ?_)
    · refine r_iconst (-1) d_S_draws_30 rfl ?_
      refine r_iret .int d_S_draws_31 rfl rfl ?_
      exact ⟨rfl, rfl⟩
    · refine r_iload_n 3 d_S_draws_22 rfl rfl ?_
      refine r_iconst 1 d_S_draws_23 rfl ?_
      refine r_callSi (c_S_isWithin _ _ _) lk_S_118 d_S_draws_24 rfl rfl (Nat.le_of_ble_eq_true rfl) (by decide) ?_
      refine r_if_ne d_S_draws_27 (fun h27 => absurd (bz_0.mpr (fun z => hG ⟨hg, bz_p h19, z⟩)) h27) (fun h27 => ?_)
      refine r_iconst (-1) d_S_draws_30 rfl ?_
      refine r_iret .int d_S_draws_31 rfl rfl ?_
      exact ⟨rfl, rfl⟩
  · have hno := lr_no hg
    rw [← hct] at hno
    refine r_aload_n 0 d_S_draws_0 rfl rfl ?_
    refine r_getR fl_S_12 (by first | with_reducible assumption | rfl) rfl d_S_draws_1 ?_
    refine r_iload_n 1 d_S_draws_4 rfl rfl ?_
    refine r_callVa (c_School_learnerAt_no _ _ hno) lk_S_127 (by first | with_reducible assumption | rfl) d_S_draws_5 rfl rfl (Nat.le_of_ble_eq_true rfl) (by decide) ?_
    refine r_astoreN 4 [_, _, _, _, _, _, _] d_S_draws_8 (by decide) rfl ?_
    refine r_aloadN 4 d_S_draws_10 rfl ?_
    refine r_ifnullN d_S_draws_12 ?_
    refine r_iconst (-1) d_S_draws_30 rfl ?_
    refine r_iret .int d_S_draws_31 rfl rfl ?_
    exact ⟨rfl, rfl⟩
theorem slM_61 {μ : Me} {c i : Nat} {t : Int32} : (slM μ c t i).1 61 = cut 36 (slF (cF μ c t) i) (μ.1 61) := by rw [slM, lastA_ne (by decide), rI_eq]
set_option maxHeartbeats 400000 in
theorem c_S_draws {m j : Nat} (hm : m ≤ 4) (hj : j < m) (t w : Int32) (ht : 1 ≤ t ∧ t ≤ 9) (hw : 0 ≤ w ∧ w ≤ 1) (μ : Me) (hct : μ.1 1 1 = nI m) : CtI m_S_draws 6 [.ref 0, .int (nI j), .int t, .int w] μ (drwS (cut 36 (slF (cF μ (8 + 4 * j) t) 36) (μ.1 61)) w) (slM μ (8 + 4 * j) t 36) := by
  refine Ct.of (ls := [.ref 0, .int (nI j), .int t, .int w, flr, flr, flr]) rfl (Nat.le_of_ble_eq_true rfl) rfl (fun X => ?_)
  generalize hg : cut 36 (slF (cF μ (8 + 4 * j) t) 36) (μ.1 61) = g
  have eg : ∀ p, (slM μ (8 + 4 * j) t 36).1 61 p = g p := fun p => by rw [slM_61, hg]
  refine r_aload_n 0 d_S_draws_0 rfl rfl ?_
  refine r_getR fl_S_12 (by first | with_reducible assumption | rfl) rfl d_S_draws_1 ?_
  refine r_iload_n 1 d_S_draws_4 rfl rfl ?_
  refine r_callVa (c_School_learnerAt_yes j m hj hm _ hct) lk_S_127 (by first | with_reducible assumption | rfl) d_S_draws_5 rfl rfl (Nat.le_of_ble_eq_true rfl) (by decide) ?_
  refine r_astore 4 [_, _, _, _, _, _, _] d_S_draws_8 (by decide) rfl ?_
  refine r_aload 4 d_S_draws_10 rfl ?_
  refine r_ifnull d_S_draws_12 ?_
  refine r_iload_n 2 d_S_draws_15 rfl rfl ?_
  refine r_callSi (c_S_isSeconds _ _) lk_S_190 d_S_draws_16 rfl rfl (Nat.le_of_ble_eq_true rfl) (by decide) ?_
  refine r_if_eq d_S_draws_19 (fun h19 => absurd h19 (fun z => bz_np z ht)) (fun h19 => ?_)
  refine r_iload_n 3 d_S_draws_22 rfl rfl ?_
  refine r_iconst 1 d_S_draws_23 rfl ?_
  refine r_callSi (c_S_isWithin _ _ _) lk_S_118 d_S_draws_24 rfl rfl (Nat.le_of_ble_eq_true rfl) (by decide) ?_
  refine r_if_ne d_S_draws_27 (fun h27 => ?_) (fun h27 => absurd h27 (fun z => bz_np z hw))
  refine r_aload_n 0 d_S_draws_32 rfl rfl ?_
  refine r_aload 4 d_S_draws_33 rfl ?_
  refine r_iload_n 2 d_S_draws_35 rfl rfl ?_
  refine r_callVv (c_S_countSlips (isL_s j (by omega)) _ _) lk_S_274 (by first | with_reducible assumption | rfl) d_S_draws_36 rfl rfl (Nat.le_of_ble_eq_true rfl) (by decide) ?_
  refine r_iconst 0 d_S_draws_39 rfl ?_
  refine r_istore 5 [_, _, _, _, _, _, _] d_S_draws_40 (by decide) rfl ?_
  refine r_iconst 1 d_S_draws_42 rfl ?_
  refine r_istore 6 [_, _, _, _, _, _, _] d_S_draws_43 (by decide) rfl ?_
  refine lpN 35 (fun i (u : Nat) => Wa X m_S_draws 6 45 [.ref 0, .int (nI j), .int t, .int w, .ref (8 + 4 * j), .int (nI u), .int (nI (i + 1))] [] (slM μ (8 + 4 * j) t 36) _) (fun i u => u = mxF g i) ?_ 0 0 (Nat.zero_le _) rfl
  intro i u hi hu hk
  have hu35 : u < 36 := by have := mxF_le g i; omega
  refine r_iload 6 d_S_draws_45 rfl ?_
  refine r_bipush (36) d_S_draws_47 (by decide) ?_
  refine r_icmp_ge d_S_draws_49 (fun h49 => ?_) (fun h49 => ?_)
  · have hge := n_le (a := 36) h49 rfl rfl (by decide) (by omega)
    obtain rfl : i = 35 := by omega
    refine r_aload_n 0 d_S_draws_79 rfl rfl ?_
    refine r_getR fl_S_58 (by first | with_reducible assumption | rfl) rfl d_S_draws_80 ?_
    refine r_iload 5 d_S_draws_83 rfl ?_
    refine r_ialdN (by first | with_reducible assumption | rfl) (by first | with_reducible assumption | omega | decide | assumption) d_S_draws_85 ?_
    rw [eg]
    refine r_if_ne d_S_draws_86 (fun h86 => ?_) (fun h86 => ?_)
    · refine r_iload_n 3 d_S_draws_92 rfl rfl ?_
      refine r_if_ne d_S_draws_93 (fun h93 => ?_) (fun h93 => ?_)
      · refine r_aload_n 0 d_S_draws_101 rfl rfl ?_
        refine r_getR fl_S_58 (by first | with_reducible assumption | rfl) rfl d_S_draws_102 ?_
        refine r_iload 5 d_S_draws_105 rfl ?_
        refine r_ialdN (by first | with_reducible assumption | rfl) (by first | with_reducible assumption | omega | decide | assumption) d_S_draws_107 ?_
        (try rw [eg])
        refine r_iret .int d_S_draws_108 rfl rfl ?_
        refine ⟨?_, rfl⟩
        rw [drwS, ← hu]
        first
          | rw [if_pos h86]
          | rw [if_neg h86, if_pos h93]
          | rw [if_neg h86, if_neg h93]
      · refine r_iload 5 d_S_draws_96 rfl ?_
        refine r_goto d_S_draws_98 ?_
        (try rw [eg])
        refine r_iret .int d_S_draws_108 rfl rfl ?_
        refine ⟨?_, rfl⟩
        rw [drwS, ← hu]
        first
          | rw [if_pos h86]
          | rw [if_neg h86, if_pos h93]
          | rw [if_neg h86, if_neg h93]
    · refine r_bipush (-3) d_S_draws_89 (by decide) ?_
      refine r_iret .int d_S_draws_91 rfl rfl ?_
      refine ⟨?_, rfl⟩
      rw [drwS, ← hu]
      first
        | rw [if_pos h86]
        | rw [if_neg h86, if_pos h93]
        | rw [if_neg h86, if_neg h93]
  · have hl : i + 1 < 36 := n_lt (a := 36) h49 rfl rfl (by decide) (by omega)
    refine r_aload_n 0 d_S_draws_52 rfl rfl ?_
    refine r_getR fl_S_58 (by first | with_reducible assumption | rfl) rfl d_S_draws_53 ?_
    refine r_iload 6 d_S_draws_56 rfl ?_
    refine r_ialdN (by first | with_reducible assumption | rfl) (by first | with_reducible assumption | omega | decide | assumption) d_S_draws_58 ?_
    refine r_aload_n 0 d_S_draws_59 rfl rfl ?_
    refine r_getR fl_S_58 (by first | with_reducible assumption | rfl) rfl d_S_draws_60 ?_
    refine r_iload 5 d_S_draws_63 rfl ?_
    refine r_ialdN (by first | with_reducible assumption | rfl) (by first | with_reducible assumption | omega | decide | assumption) d_S_draws_65 ?_
    rw [eg, eg]
    refine r_icmp_le d_S_draws_66 (fun h66 => ?_) (fun h66 => ?_)
    · first | refine r_iincN 6 [_, _, _, _, _, _, _] d_S_draws_73 (by decide) rfl rfl ?_ | refine r_iinc 6 [_, _, _, _, _, _, _] (1) d_S_draws_73 (by decide) (by decide) rfl rfl ?_
      refine r_goto d_S_draws_76 ?_
      refine hk _ (by omega) ?_
      rw [mxF, ← hu]
      first
        | exact (if_neg (Int32.not_lt.mpr h66)).symm
        | exact (if_pos (Int32.not_le.mp h66)).symm
    · refine r_iload 6 d_S_draws_69 rfl ?_
      refine r_istore 5 [_, _, _, _, _, _, _] d_S_draws_71 (by decide) rfl ?_
      first | refine r_iincN 6 [_, _, _, _, _, _, _] d_S_draws_73 (by decide) rfl rfl ?_ | refine r_iinc 6 [_, _, _, _, _, _, _] (1) d_S_draws_73 (by decide) (by decide) rfl rfl ?_
      refine r_goto d_S_draws_76 ?_
      refine hk _ (by omega) ?_
      rw [mxF, ← hu]
      first
        | exact (if_neg (Int32.not_lt.mpr h66)).symm
        | exact (if_pos (Int32.not_le.mp h66)).symm
/-- the PAIR at a place of a set -/
def mbF (x : Int64) : Nat → Nat → Int32 → Int32
  | 0, _, _ => -3
  | k + 1, p, lf => if lg_cmp (ush x (nI p) &&& 1) 1 = 0 then (if lf = 0 then nI p else mbF x k (p + 1) (lf + -1)) else mbF x k (p + 1) lf
set_option maxHeartbeats 400000 in
theorem c_S_memberAt (x : Int64) (pl : Int32) (μ : Me) : CtI m_S_memberAt 0 [.long x, .int pl] μ (mbF x 36 0 pl) μ := by
  refine Ct.of (ls := [.long x, flr, .int pl, flr, flr]) rfl (Nat.le_of_ble_eq_true rfl) rfl (fun X => ?_)
  refine r_iload_n 2 d_S_memberAt_0 rfl rfl ?_
  refine r_istore_n 3 [_, _, _, _, _] d_S_memberAt_1 rfl (by decide) rfl ?_
  refine r_iconst 0 d_S_memberAt_2 rfl ?_
  refine r_istore 4 [_, _, _, _, _] d_S_memberAt_3 (by decide) rfl ?_
  have key : ∀ (k p : Nat) (lf : Int32), p + k = 36 → mbF x k p lf = mbF x 36 0 pl → Wa X m_S_memberAt 0 5 [.long x, flr, .int pl, .int lf, .int (nI p)] [] μ (fun r μ' => r = some (.int (mbF x 36 0 pl)) ∧ μ' = μ) := by
    intro k
    induction k with
    | zero =>
      intro p lf hp he
      refine r_iload 4 d_S_memberAt_5 rfl ?_
      refine r_bipush (36) d_S_memberAt_7 (by decide) ?_
      refine r_icmp_ge d_S_memberAt_9 (fun h9 => ?_) (fun h9 => absurd (by rw [show p = 36 by omega]; decide) h9)
      refine r_bipush (-3) d_S_memberAt_39 (by decide) ?_
      refine r_iret .int d_S_memberAt_41 rfl rfl ?_
      exact ⟨by rw [← he, mbF], rfl⟩
    | succ k ih =>
      intro p lf hp he
      refine r_iload 4 d_S_memberAt_5 rfl ?_
      refine r_bipush (36) d_S_memberAt_7 (by decide) ?_
      refine r_icmp_ge d_S_memberAt_9 (fun h9 => absurd h9 (nI_ge (show p < 36 by omega) (by decide))) (fun h9 => ?_)
      refine r_lload_n 0 d_S_memberAt_12 rfl rfl ?_
      refine r_iload 4 d_S_memberAt_13 rfl ?_
      refine r_lushr d_S_memberAt_15 ?_
      refine r_lconst 1 d_S_memberAt_16 rfl ?_
      refine r_land d_S_memberAt_17 ?_
      refine r_lconst 1 d_S_memberAt_18 rfl ?_
      refine r_lcmp d_S_memberAt_19 ?_
      refine r_if_ne d_S_memberAt_20 (fun h20 => ?_) (fun h20 => ?_)
      · first | refine r_iincN 4 [_, _, _, _, _] d_S_memberAt_33 (by decide) rfl rfl ?_ | refine r_iinc 4 [_, _, _, _, _] (1) d_S_memberAt_33 (by decide) (by decide) rfl rfl ?_
        refine r_goto d_S_memberAt_36 ?_
        refine ih _ _ (by omega) ?_
        rw [← he, mbF]
        first
          | exact (if_neg h20).symm
          | exact (Eq.trans (if_pos h20) (if_neg h24)).symm
      · refine r_iload_n 3 d_S_memberAt_23 rfl rfl ?_
        refine r_if_ne d_S_memberAt_24 (fun h24 => ?_) (fun h24 => ?_)
        · refine r_iinc 3 [_, _, _, _, _] (-1) d_S_memberAt_30 (by decide) (by decide) rfl rfl ?_
          first | refine r_iincN 4 [_, _, _, _, _] d_S_memberAt_33 (by decide) rfl rfl ?_ | refine r_iinc 4 [_, _, _, _, _] (1) d_S_memberAt_33 (by decide) (by decide) rfl rfl ?_
          refine r_goto d_S_memberAt_36 ?_
          refine ih _ _ (by omega) ?_
          rw [← he, mbF]
          first
            | exact (if_neg h20).symm
            | exact (Eq.trans (if_pos h20) (if_neg h24)).symm
        · refine r_iload 4 d_S_memberAt_27 rfl ?_
          refine r_iret .int d_S_memberAt_29 rfl rfl ?_
          exact ⟨by rw [← he, mbF, if_pos (show lg_cmp (ush x (nI p) &&& 1) 1 = 0 from h20), if_pos h24], rfl⟩
  exact key 36 0 _ rfl rfl
def unk (s : Int64) : Int64 := 68719476735 &&& (s ^^^ -1)
set_option maxHeartbeats 400000 in
theorem c_S_draw_no {m : Nat} (l t : Int32) (μ : Me) (hct : μ.1 1 1 = nI m) (hm : m ≤ 4) (hG : ¬ ((0 ≤ l ∧ l < nI m) ∧ 1 ≤ t ∧ t ≤ 9)) : CtI m_S_draw 6 [.ref 0, .int l, .int t] μ (-1) μ := by
  refine Ct.of (ls := [.ref 0, .int l, .int t, flr, flr, flr, flr]) rfl (Nat.le_of_ble_eq_true rfl) rfl (fun X => ?_)
  by_cases hg : 0 ≤ l ∧ l < nI m
  · obtain ⟨j, hj, rfl⟩ := lr_yes hm hg
    refine r_aload_n 0 d_S_draw_0 rfl rfl ?_
    refine r_getR fl_S_12 (by first | with_reducible assumption | rfl) rfl d_S_draw_1 ?_
    refine r_iload_n 1 d_S_draw_4 rfl rfl ?_
    refine r_callVa (c_School_learnerAt_yes j m hj hm _ hct) lk_S_127 (by first | with_reducible assumption | rfl) d_S_draw_5 rfl rfl (Nat.le_of_ble_eq_true rfl) (by decide) ?_
    refine r_astore_n 3 [_, _, _, _, _, _, _] d_S_draw_8 rfl (by decide) rfl ?_
    refine r_aload_n 3 d_S_draw_9 rfl rfl ?_
    refine r_ifnull d_S_draw_10 ?_
    refine r_iload_n 2 d_S_draw_13 rfl rfl ?_
    refine r_callSi (c_S_isSeconds _ _) lk_S_190 d_S_draw_14 rfl rfl (Nat.le_of_ble_eq_true rfl) (by decide) ?_
    refine r_if_ne d_S_draw_17 (fun h17 => absurd (bz_0.mpr (fun z => hG ⟨hg, z⟩)) h17) (fun h17 => ?_)
    refine r_iconst (-1) d_S_draw_20 rfl ?_
    refine r_iret .int d_S_draw_21 rfl rfl ?_
    exact ⟨rfl, rfl⟩
  · have hno := lr_no hg
    rw [← hct] at hno
    refine r_aload_n 0 d_S_draw_0 rfl rfl ?_
    refine r_getR fl_S_12 (by first | with_reducible assumption | rfl) rfl d_S_draw_1 ?_
    refine r_iload_n 1 d_S_draw_4 rfl rfl ?_
    refine r_callVa (c_School_learnerAt_no _ _ hno) lk_S_127 (by first | with_reducible assumption | rfl) d_S_draw_5 rfl rfl (Nat.le_of_ble_eq_true rfl) (by decide) ?_
    refine r_astore_nN 3 [_, _, _, _, _, _, _] d_S_draw_8 rfl (by decide) rfl ?_
    refine r_aload_nN 3 d_S_draw_9 rfl rfl ?_
    refine r_ifnullN d_S_draw_10 ?_
    refine r_iconst (-1) d_S_draw_20 rfl ?_
    refine r_iret .int d_S_draw_21 rfl rfl ?_
    exact ⟨rfl, rfl⟩
def nextZ (z : Int32) : Int32 := z * 1103515245 + 12345
def ush32 (x k : Int32) : Int32 := (x.toUInt32 >>> (k.toUInt32 &&& Int32.toUInt32 31)).toInt32
def plcZ (z n : Int32) : Int32 := ush32 z 16 - ush32 z 16 / n * n
set_option maxHeartbeats 400000 in
theorem c_S_draw {m j : Nat} (hm : m ≤ 4) (hj : j < m) (t : Int32) (ht : 1 ≤ t ∧ t ≤ 9) (μ : Me) (hct : μ.1 1 1 = nI m) : CtI m_S_draw 6 [.ref 0, .int (nI j), .int t] μ (if bitS (unk (knS μ (8 + 4 * j) t)) = 0 then -3 else mbF (unk (knS μ (8 + 4 * j) t)) 36 0 (plcZ (nextZ (μ.1 1 4)) (bitS (unk (knS μ (8 + 4 * j) t))))) (if bitS (unk (knS μ (8 + 4 * j) t)) = 0 then knA μ (8 + 4 * j) t else uI (knA μ (8 + 4 * j) t) 1 4 (nextZ (μ.1 1 4))) := by
  refine Ct.of (ls := [.ref 0, .int (nI j), .int t, flr, flr, flr, flr]) rfl (Nat.le_of_ble_eq_true rfl) rfl (fun X => ?_)
  refine r_aload_n 0 d_S_draw_0 rfl rfl ?_
  refine r_getR fl_S_12 (by first | with_reducible assumption | rfl) rfl d_S_draw_1 ?_
  refine r_iload_n 1 d_S_draw_4 rfl rfl ?_
  refine r_callVa (c_School_learnerAt_yes j m hj hm _ hct) lk_S_127 (by first | with_reducible assumption | rfl) d_S_draw_5 rfl rfl (Nat.le_of_ble_eq_true rfl) (by decide) ?_
  refine r_astore_n 3 [_, _, _, _, _, _, _] d_S_draw_8 rfl (by decide) rfl ?_
  refine r_aload_n 3 d_S_draw_9 rfl rfl ?_
  refine r_ifnull d_S_draw_10 ?_
  refine r_iload_n 2 d_S_draw_13 rfl rfl ?_
  refine r_callSi (c_S_isSeconds _ _) lk_S_190 d_S_draw_14 rfl rfl (Nat.le_of_ble_eq_true rfl) (by decide) ?_
  refine r_if_ne d_S_draw_17 (fun h17 => ?_) (fun h17 => absurd h17 (fun z => bz_np z ht))
  refine r_ldc2 kc_S_234 d_S_draw_22 ?_
  refine r_aload_n 0 d_S_draw_25 rfl rfl ?_
  refine r_aload_n 3 d_S_draw_26 rfl rfl ?_
  refine r_iload_n 2 d_S_draw_27 rfl rfl ?_
  refine r_callVl (c_S_knownSet (isL_s j (by omega)) _ _) lk_S_223 (by first | with_reducible assumption | rfl) d_S_draw_28 rfl rfl (Nat.le_of_ble_eq_true rfl) (by decide) ?_
  show Wa X _ _ _ _ (.long (knS μ (8 + 4 * j) t) :: _) (knA μ (8 + 4 * j) t) _
  refine r_ldc2 kc_S_161 d_S_draw_31 ?_
  refine r_lxor d_S_draw_34 ?_
  refine r_land d_S_draw_35 ?_
  refine r_lstore 4 [_, _, _, _, _, _, _] d_S_draw_36 (by decide) rfl ?_
  refine r_lload 4 d_S_draw_38 rfl ?_
  refine r_callSi (c_JLong_bitCount _ _) lk_S_240 d_S_draw_40 rfl rfl (Nat.le_of_ble_eq_true rfl) (by decide) ?_
  refine r_istore 6 [_, _, _, _, _, _, _] d_S_draw_43 (by decide) rfl ?_
  refine r_iload 6 d_S_draw_45 rfl ?_
  refine r_if_ne d_S_draw_47 (fun h47 => ?_) (fun h47 => ?_)
  · refine r_aload_n 0 d_S_draw_53 rfl rfl ?_
    refine r_getR fl_S_12 (by first | with_reducible assumption | rfl) rfl d_S_draw_54 ?_
    refine r_aload_n 0 d_S_draw_57 rfl rfl ?_
    refine r_getR fl_S_12 (by first | with_reducible assumption | rfl) rfl d_S_draw_58 ?_
    refine r_getI fl_S_290 (by first | with_reducible assumption | rfl) rfl d_S_draw_61 ?_
    rw [knA_1 (by decide)]
    refine r_ldc_w kc_S_293 d_S_draw_64 ?_
    refine r_imul d_S_draw_67 ?_
    refine r_sipush (12345) d_S_draw_68 (by decide) ?_
    refine r_iadd d_S_draw_71 ?_
    refine r_putI fp_S_290 (by first | with_reducible assumption | rfl) rfl d_S_draw_72 ?_
    refine r_lload 4 d_S_draw_75 rfl ?_
    refine r_aload_n 0 d_S_draw_77 rfl rfl ?_
    refine r_getR fl_S_12 (by first | with_reducible assumption | rfl) rfl d_S_draw_78 ?_
    refine r_getI fl_S_290 (by first | with_reducible assumption | rfl) rfl d_S_draw_81 ?_
    rw [uI_at]
    refine r_bipush (16) d_S_draw_84 (by decide) ?_
    refine r_iushr d_S_draw_86 ?_
    refine r_iload 6 d_S_draw_87 rfl ?_
    refine r_irem d_S_draw_89 h47 ?_
    refine r_callSi (c_S_memberAt _ _ _) lk_S_294 d_S_draw_90 rfl rfl (Nat.le_of_ble_eq_true rfl) (by decide) ?_
    refine r_iret .int d_S_draw_93 rfl rfl ?_
    exact ⟨by rw [unk, if_neg h47]; rfl, by rw [unk, if_neg h47]; rfl⟩
  · refine r_bipush (-3) d_S_draw_50 (by decide) ?_
    refine r_iret .int d_S_draw_52 rfl rfl ?_
    exact ⟨by rw [unk, if_pos h47], by rw [unk, if_pos h47]⟩
def itemS (μ : Me) (i w : Int32) : Int32 := if 0 ≤ w ∧ w ≤ 2 then (if 0 ≤ i ∧ i < μ.1 4 3 then (if w = 0 then μ.1 5 i.toNatClampNeg else if w = 1 then μ.1 6 i.toNatClampNeg else μ.1 7 i.toNatClampNeg) else -3) else -1
set_option maxHeartbeats 400000 in
theorem c_S_item {n : Nat} (hn : n ≤ 12) (i w : Int32) (μ : Me) (hct : μ.1 4 3 = nI n) : CtI m_S_item 1 [.ref 0, .int i, .int w] μ (itemS μ i w) μ := by
  refine Ct.of (ls := [.ref 0, .int i, .int w]) rfl (Nat.le_of_ble_eq_true rfl) rfl (fun X => ?_)
  refine r_iload_n 2 d_S_item_0 rfl rfl ?_
  refine r_iconst 2 d_S_item_1 rfl ?_
  refine r_callSi (c_S_isWithin _ _ _) lk_S_118 d_S_item_2 rfl rfl (Nat.le_of_ble_eq_true rfl) (by decide) ?_
  refine r_if_ne d_S_item_5 (fun h5 => ?_) (fun h5 => ?_)
  · refine r_iload_n 1 d_S_item_10 rfl rfl ?_
    refine r_if_lt d_S_item_11 (fun h11 => ?_) (fun h11 => ?_)
    · refine r_bipush (-3) d_S_item_28 (by decide) ?_
      refine r_iret .int d_S_item_30 rfl rfl ?_
      refine ⟨?_, rfl⟩
      rw [itemS, if_pos (bz_p h5), if_neg]
      intro z
      first
        | exact absurd z.1 (Int32.not_le.mpr h11)
        | exact absurd z.2 h25
    · refine r_iload_n 1 d_S_item_14 rfl rfl ?_
      refine r_aload_n 0 d_S_item_15 rfl rfl ?_
      refine r_getR fl_S_12 (by first | with_reducible assumption | rfl) rfl d_S_item_16 ?_
      refine r_getR fl_S_108 (by first | with_reducible assumption | rfl) rfl d_S_item_19 ?_
      refine r_getI fl_S_115 (by first | with_reducible assumption | rfl) rfl d_S_item_22 ?_
      refine r_icmp_lt d_S_item_25 (fun h25 => ?_) (fun h25 => ?_)
      · have hW := bz_p h5
        have hI : 0 ≤ i ∧ i < μ.1 4 3 := ⟨Int32.not_lt.mp h11, h25⟩
        obtain ⟨zq, zhq, rfl⟩ : ∃ j, j < n ∧ i = nI j := by
          rcases pk_ix i (n := n) (by omega) with z | z | z
          · exact absurd z h11
          · rw [← hct] at z; exact absurd h25 (Int32.not_lt.mpr z)
          · exact z
        have hcp := cl36 zhq (show n ≤ 1000 by omega)
        refine r_iload_n 2 d_S_item_31 rfl rfl ?_
        refine r_ls d_S_item_32 (List.forall_mem_cons.mpr ⟨fun h32 => ?_, List.forall_mem_cons.mpr ⟨fun h32 => ?_, fun _ h => absurd h List.not_mem_nil⟩⟩) (fun h32 => ?_)
        · refine r_aload_n 0 d_S_item_60 rfl rfl ?_
          refine r_getR fl_S_12 (by first | with_reducible assumption | rfl) rfl d_S_item_61 ?_
          refine r_getR fl_S_108 (by first | with_reducible assumption | rfl) rfl d_S_item_64 ?_
          refine r_getR fl_S_281 (by first | with_reducible assumption | rfl) rfl d_S_item_67 ?_
          refine r_iload_n 1 d_S_item_70 rfl rfl ?_
          refine r_ialdN (by first | with_reducible assumption | rfl) (by first | with_reducible assumption | omega | decide | assumption) d_S_item_71 ?_
          refine r_iret .int d_S_item_72 rfl rfl ?_
          refine ⟨?_, rfl⟩
          rw [itemS, if_pos hW, if_pos hI, hcp]
          simp_all
        · refine r_aload_n 0 d_S_item_73 rfl rfl ?_
          refine r_getR fl_S_12 (by first | with_reducible assumption | rfl) rfl d_S_item_74 ?_
          refine r_getR fl_S_108 (by first | with_reducible assumption | rfl) rfl d_S_item_77 ?_
          refine r_getR fl_S_278 (by first | with_reducible assumption | rfl) rfl d_S_item_80 ?_
          refine r_iload_n 1 d_S_item_83 rfl rfl ?_
          refine r_ialdN (by first | with_reducible assumption | rfl) (by first | with_reducible assumption | omega | decide | assumption) d_S_item_84 ?_
          refine r_iret .int d_S_item_85 rfl rfl ?_
          refine ⟨?_, rfl⟩
          rw [itemS, if_pos hW, if_pos hI, hcp]
          simp_all
        · refine r_aload_n 0 d_S_item_86 rfl rfl ?_
          refine r_getR fl_S_12 (by first | with_reducible assumption | rfl) rfl d_S_item_87 ?_
          refine r_getR fl_S_108 (by first | with_reducible assumption | rfl) rfl d_S_item_90 ?_
          refine r_getR fl_S_284 (by first | with_reducible assumption | rfl) rfl d_S_item_93 ?_
          refine r_iload_n 1 d_S_item_96 rfl rfl ?_
          refine r_ialdN (by first | with_reducible assumption | rfl) (by first | with_reducible assumption | omega | decide | assumption) d_S_item_97 ?_
          refine r_iret .int d_S_item_98 rfl rfl ?_
          refine ⟨?_, rfl⟩
          rw [itemS, if_pos hW, if_pos hI, hcp]
          simp_all
      · refine r_bipush (-3) d_S_item_28 (by decide) ?_
        refine r_iret .int d_S_item_30 rfl rfl ?_
        refine ⟨?_, rfl⟩
        rw [itemS, if_pos (bz_p h5), if_neg]
        intro z
        first
          | exact absurd z.1 (Int32.not_le.mpr h11)
          | exact absurd z.2 h25
  · refine r_iconst (-1) d_S_item_8 rfl ?_
    refine r_iret .int d_S_item_9 rfl rfl ?_
    exact ⟨by rw [itemS, if_neg (bz_np h5)], rfl⟩
def manyS (μ : Me) (w : Int32) : Int32 := if w = 0 then μ.1 1 1 else if w = 1 then μ.1 4 3 else if w = 2 then μ.1 62 1 else if w = 3 then μ.1 47 1 else if w = 4 then μ.1 68 5 else -1
set_option maxHeartbeats 400000 in
theorem c_S_many (w : Int32) (μ : Me) : CtI m_S_many 0 [.ref 0, .int w] μ (manyS μ w) μ := by
  refine Ct.of (ls := [.ref 0, .int w]) rfl (Nat.le_of_ble_eq_true rfl) rfl (fun X => ?_)
  refine r_iload_n 1 d_S_many_0 rfl rfl ?_
  refine r_ts d_S_many_1 (List.forall_mem_cons.mpr ⟨fun h1 => ?_, List.forall_mem_cons.mpr ⟨fun h1 => ?_, List.forall_mem_cons.mpr ⟨fun h1 => ?_, List.forall_mem_cons.mpr ⟨fun h1 => ?_, List.forall_mem_cons.mpr ⟨fun h1 => ?_, fun _ h => absurd h List.not_mem_nil⟩⟩⟩⟩⟩) (fun h1 => ?_)
  · refine r_aload_n 0 d_S_many_36 rfl rfl ?_
    refine r_getR fl_S_12 (by first | with_reducible assumption | rfl) rfl d_S_many_37 ?_
    refine r_getI fl_S_122 (by first | with_reducible assumption | rfl) rfl d_S_many_40 ?_
    refine r_iret .int d_S_many_43 rfl rfl ?_
    exact ⟨by simp_all [manyS], rfl⟩
  · refine r_aload_n 0 d_S_many_44 rfl rfl ?_
    refine r_getR fl_S_12 (by first | with_reducible assumption | rfl) rfl d_S_many_45 ?_
    refine r_getR fl_S_108 (by first | with_reducible assumption | rfl) rfl d_S_many_48 ?_
    refine r_getI fl_S_115 (by first | with_reducible assumption | rfl) rfl d_S_many_51 ?_
    refine r_iret .int d_S_many_54 rfl rfl ?_
    exact ⟨by simp_all [manyS], rfl⟩
  · refine r_aload_n 0 d_S_many_55 rfl rfl ?_
    refine r_getR fl_S_65 (by first | with_reducible assumption | rfl) rfl d_S_many_56 ?_
    refine r_getI fl_S_302 (by first | with_reducible assumption | rfl) rfl d_S_many_59 ?_
    refine r_iret .int d_S_many_62 rfl rfl ?_
    exact ⟨by simp_all [manyS], rfl⟩
  · refine r_aload_n 0 d_S_many_63 rfl rfl ?_
    refine r_getR fl_S_26 (by first | with_reducible assumption | rfl) rfl d_S_many_64 ?_
    refine r_getI fl_S_93 (by first | with_reducible assumption | rfl) rfl d_S_many_67 ?_
    refine r_iret .int d_S_many_70 rfl rfl ?_
    exact ⟨by simp_all [manyS], rfl⟩
  · refine r_aload_n 0 d_S_many_71 rfl rfl ?_
    refine r_getR fl_S_87 (by first | with_reducible assumption | rfl) rfl d_S_many_72 ?_
    refine r_getI fl_S_385 (by first | with_reducible assumption | rfl) rfl d_S_many_75 ?_
    refine r_iret .int d_S_many_78 rfl rfl ?_
    exact ⟨by simp_all [manyS], rfl⟩
  · refine r_iconst (-1) d_S_many_79 rfl ?_
    refine r_iret .int d_S_many_80 rfl rfl ?_
    exact ⟨by simp_all [manyS], rfl⟩
def traceS (μ : Me) (i : Int32) : Int32 := if 0 ≤ i ∧ i < μ.1 68 5 then μ.1 69 i.toNatClampNeg else -3
set_option maxHeartbeats 400000 in
theorem c_S_trace {n : Nat} (hn : n ≤ 30) (i : Int32) (μ : Me) (hct : μ.1 68 5 = nI n) : CtI m_S_trace 0 [.ref 0, .int i] μ (traceS μ i) μ := by
  refine Ct.of (ls := [.ref 0, .int i]) rfl (Nat.le_of_ble_eq_true rfl) rfl (fun X => ?_)
  refine r_iload_n 1 d_S_trace_0 rfl rfl ?_
  refine r_if_lt d_S_trace_1 (fun h1 => ?_) (fun h1 => ?_)
  · refine r_bipush (-3) d_S_trace_15 (by decide) ?_
    refine r_goto d_S_trace_17 ?_
    refine r_iret .int d_S_trace_29 rfl rfl ?_
    refine ⟨?_, rfl⟩
    rw [traceS, if_neg]
    intro z
    first
      | exact absurd z.1 (Int32.not_le.mpr h1)
      | exact absurd z.2 h12
  · refine r_iload_n 1 d_S_trace_4 rfl rfl ?_
    refine r_aload_n 0 d_S_trace_5 rfl rfl ?_
    refine r_getR fl_S_87 (by first | with_reducible assumption | rfl) rfl d_S_trace_6 ?_
    refine r_getI fl_S_385 (by first | with_reducible assumption | rfl) rfl d_S_trace_9 ?_
    refine r_icmp_lt d_S_trace_12 (fun h12 => ?_) (fun h12 => ?_)
    · have hI : 0 ≤ i ∧ i < μ.1 68 5 := ⟨Int32.not_lt.mp h1, h12⟩
      obtain ⟨zq, zhq, rfl⟩ : ∃ j, j < n ∧ i = nI j := by
        rcases pk_ix i (n := n) (by omega) with z | z | z
        · exact absurd z h1
        · rw [← hct] at z; exact absurd h12 (Int32.not_lt.mpr z)
        · exact z
      have hcp := cl36 zhq (show n ≤ 1000 by omega)
      refine r_aload_n 0 d_S_trace_20 rfl rfl ?_
      refine r_getR fl_S_87 (by first | with_reducible assumption | rfl) rfl d_S_trace_21 ?_
      refine r_getR fl_S_386 (by first | with_reducible assumption | rfl) rfl d_S_trace_24 ?_
      refine r_iload_n 1 d_S_trace_27 rfl rfl ?_
      refine r_ialdN (by first | with_reducible assumption | rfl) (by first | with_reducible assumption | omega | decide | assumption) d_S_trace_28 ?_
      refine r_iret .int d_S_trace_29 rfl rfl ?_
      exact ⟨by rw [traceS, if_pos hI, hcp], rfl⟩
    · refine r_bipush (-3) d_S_trace_15 (by decide) ?_
      refine r_goto d_S_trace_17 ?_
      refine r_iret .int d_S_trace_29 rfl rfl ?_
      refine ⟨?_, rfl⟩
      rw [traceS, if_neg]
      intro z
      first
        | exact absurd z.1 (Int32.not_le.mpr h1)
        | exact absurd z.2 h12
theorem plc_or {n i w : Int32} {m : Nat} (hm : m ≤ 12) (hn : n = nI m) (h : ¬ plcS n i w < 0) : ∃ a b, a < m ∧ b < 3 ∧ i = nI a ∧ w = nI b ∧ plcS n i w = nI (3 * a + b) := by
  subst hn
  unfold plcS at h ⊢
  split at h
  · rename_i hh
    obtain ⟨a, ha, rfl⟩ : ∃ j, j < m ∧ i = nI j := by
      rcases pk_ix i (n := m) (by omega) with z | z | z
      · exact absurd z (Int32.not_lt.mpr hh.1)
      · exact absurd hh.2.1 (Int32.not_lt.mpr z)
      · exact z
    obtain ⟨b, hb, rfl⟩ : ∃ j, j < 3 ∧ w = nI j := by
      rcases pk_ix w (n := 3) (by decide) with z | z | z
      · exact absurd z (Int32.not_lt.mpr hh.2.2.1)
      · exact absurd (Int32.le_trans z hh.2.2.2) (by decide)
      · exact z
    exact ⟨a, b, ha, hb, rfl, rfl, by rw [if_pos hh, mul3, nI_add]⟩
  · exact absurd (by decide) h
def rowS (μ : Me) (i w : Int32) : Int32 := if plcS (μ.1 62 1) i w < 0 then -99 else μ.1 63 (plcS (μ.1 62 1) i w).toNatClampNeg
set_option maxHeartbeats 400000 in
theorem c_S_row {n : Nat} (hn : n ≤ 12) (i w : Int32) (μ : Me) (hct : μ.1 62 1 = nI n) : CtI m_S_row 2 [.ref 0, .int i, .int w] μ (rowS μ i w) μ := by
  refine Ct.of (ls := [.ref 0, .int i, .int w, flr]) rfl (Nat.le_of_ble_eq_true rfl) rfl (fun X => ?_)
  refine r_aload_n 0 d_S_row_0 rfl rfl ?_
  refine r_getR fl_S_65 (by first | with_reducible assumption | rfl) rfl d_S_row_1 ?_
  refine r_iload_n 1 d_S_row_4 rfl rfl ?_
  refine r_iload_n 2 d_S_row_5 rfl rfl ?_
  refine r_callVi (c_Rows_placeOf isRw_62 _ _ _) lk_S_303 (by first | with_reducible assumption | rfl) d_S_row_6 rfl rfl (Nat.le_of_ble_eq_true rfl) (by decide) ?_
  generalize hx : plcS (μ.1 62 1) i w = x
  refine r_istore_n 3 [_, _, _, _] d_S_row_9 rfl (by decide) rfl ?_
  refine r_iload_n 3 d_S_row_10 rfl rfl ?_
  refine r_if_ge d_S_row_11 (fun h11 => ?_) (fun h11 => ?_)
  · obtain ⟨za, zb, zha, zhb, -, -, zhe⟩ := plc_or hn hct (i := i) (w := w) (by rw [hx]; exact Int32.not_lt.mpr h11)
    rw [hx] at zhe
    have hcp := cl36 (show 3 * za + zb < 36 by omega) (show 36 ≤ 1000 by decide)
    subst zhe
    refine r_aload_n 0 d_S_row_19 rfl rfl ?_
    refine r_getR fl_S_65 (by first | with_reducible assumption | rfl) rfl d_S_row_20 ?_
    refine r_getR fl_S_306 (by first | with_reducible assumption | rfl) rfl d_S_row_23 ?_
    refine r_iload_n 3 d_S_row_26 rfl rfl ?_
    refine r_ialdN (by first | with_reducible assumption | rfl) (by first | with_reducible assumption | omega | decide | assumption) d_S_row_27 ?_
    refine r_iret .int d_S_row_28 rfl rfl ?_
    exact ⟨by rw [rowS, hx, if_neg (Int32.not_lt.mpr h11), hcp], rfl⟩
  · refine r_bipush (-99) d_S_row_14 (by decide) ?_
    refine r_goto d_S_row_16 ?_
    refine r_iret .int d_S_row_28 rfl rfl ?_
    exact ⟨by rw [rowS, hx, if_pos (Int32.not_le.mp h11)], rfl⟩
set_option maxHeartbeats 400000 in
theorem c_S_alterRow_no (i w v : Int32) (μ : Me) (hx : plcS (μ.1 62 1) i w < 0) : CtI m_S_alterRow 2 [.ref 0, .int i, .int w, .int v] μ (-99) μ := by
  refine Ct.of (ls := [.ref 0, .int i, .int w, .int v, flr, flr]) rfl (Nat.le_of_ble_eq_true rfl) rfl (fun X => ?_)
  refine r_aload_n 0 d_S_alterRow_0 rfl rfl ?_
  refine r_getR fl_S_65 (by first | with_reducible assumption | rfl) rfl d_S_alterRow_1 ?_
  refine r_iload_n 1 d_S_alterRow_4 rfl rfl ?_
  refine r_iload_n 2 d_S_alterRow_5 rfl rfl ?_
  refine r_callVi (c_Rows_placeOf isRw_62 _ _ _) lk_S_303 (by first | with_reducible assumption | rfl) d_S_alterRow_6 rfl rfl (Nat.le_of_ble_eq_true rfl) (by decide) ?_
  refine r_istore 4 [_, _, _, _, _, _] d_S_alterRow_9 (by decide) rfl ?_
  refine r_iload 4 d_S_alterRow_11 rfl ?_
  refine r_if_ge d_S_alterRow_13 (fun h13 => absurd h13 (Int32.not_le.mpr hx)) (fun h13 => ?_)
  refine r_bipush (-99) d_S_alterRow_16 (by decide) ?_
  refine r_iret .int d_S_alterRow_18 rfl rfl ?_
  exact ⟨rfl, rfl⟩
set_option maxHeartbeats 400000 in
theorem c_S_alterRow {k : Nat} (hk : k < 36) (i w v : Int32) (μ : Me) (hx : plcS (μ.1 62 1) i w = nI k) : CtI m_S_alterRow 2 [.ref 0, .int i, .int w, .int v] μ (μ.1 63 k) (uI μ 63 k v) := by
  refine Ct.of (ls := [.ref 0, .int i, .int w, .int v, flr, flr]) rfl (Nat.le_of_ble_eq_true rfl) rfl (fun X => ?_)
  refine r_aload_n 0 d_S_alterRow_0 rfl rfl ?_
  refine r_getR fl_S_65 (by first | with_reducible assumption | rfl) rfl d_S_alterRow_1 ?_
  refine r_iload_n 1 d_S_alterRow_4 rfl rfl ?_
  refine r_iload_n 2 d_S_alterRow_5 rfl rfl ?_
  refine r_callVi (c_Rows_placeOf isRw_62 _ _ _) lk_S_303 (by first | with_reducible assumption | rfl) d_S_alterRow_6 rfl rfl (Nat.le_of_ble_eq_true rfl) (by decide) ?_
  rw [hx]
  refine r_istore 4 [_, _, _, _, _, _] d_S_alterRow_9 (by decide) rfl ?_
  refine r_iload 4 d_S_alterRow_11 rfl ?_
  refine r_if_ge d_S_alterRow_13 (fun h13 => ?_) (fun h13 => absurd (nI_pos' (by omega)) h13)
  refine r_aload_n 0 d_S_alterRow_19 rfl rfl ?_
  refine r_getR fl_S_65 (by first | with_reducible assumption | rfl) rfl d_S_alterRow_20 ?_
  refine r_getR fl_S_306 (by first | with_reducible assumption | rfl) rfl d_S_alterRow_23 ?_
  refine r_iload 4 d_S_alterRow_26 rfl ?_
  refine r_ialdN (by first | with_reducible assumption | rfl) (by first | with_reducible assumption | omega | decide | assumption) d_S_alterRow_28 ?_
  refine r_istore 5 [_, _, _, _, _, _] d_S_alterRow_29 (by decide) rfl ?_
  refine r_aload_n 0 d_S_alterRow_31 rfl rfl ?_
  refine r_getR fl_S_65 (by first | with_reducible assumption | rfl) rfl d_S_alterRow_32 ?_
  refine r_getR fl_S_306 (by first | with_reducible assumption | rfl) rfl d_S_alterRow_35 ?_
  refine r_iload 4 d_S_alterRow_38 rfl ?_
  refine r_iload_n 3 d_S_alterRow_40 rfl rfl ?_
  refine r_iastN (by first | with_reducible assumption | rfl) (by first | with_reducible assumption | omega | decide | assumption) d_S_alterRow_41 ?_
  refine r_iload 5 d_S_alterRow_42 rfl ?_
  refine r_iret .int d_S_alterRow_44 rfl rfl ?_
  exact ⟨rfl, rfl⟩
