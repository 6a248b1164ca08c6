set_option maxHeartbeats 400000 in
theorem c_S_learner_bad {k a : Int32} (hP : ¬ ((0 ≤ k ∧ k < 6) ∧ 0 ≤ a ∧ a ≤ 40)) (μ : Me) : CtI m_S_learner 3 [.ref 0, .int k, .int a] μ (-1) μ := by
  refine Ct.of (ls := [.ref 0, .int k, .int a]) rfl (Nat.le_of_ble_eq_true rfl) rfl (fun X => ?_)
  refine r_iload_n 1 d_S_learner_0 rfl rfl ?_
  refine r_if_lt d_S_learner_1 (fun h1 => ?_) (fun h1 => ?_)
  · refine r_iconst (-1) d_S_learner_19 rfl ?_
    refine r_iret .int d_S_learner_20 rfl rfl ?_
    exact ⟨rfl, rfl⟩
  · refine r_iload_n 1 d_S_learner_4 rfl rfl ?_
    refine r_bipush (6) d_S_learner_5 (by decide) ?_
    refine r_icmp_ge d_S_learner_7 (fun h7 => ?_) (fun h7 => ?_)
    · refine r_iconst (-1) d_S_learner_19 rfl ?_
      refine r_iret .int d_S_learner_20 rfl rfl ?_
      exact ⟨rfl, rfl⟩
    · refine r_iload_n 2 d_S_learner_10 rfl rfl ?_
      refine r_bipush (40) d_S_learner_11 (by decide) ?_
      refine r_callSi (c_S_isWithin _ _ _) lk_S_118 d_S_learner_13 rfl rfl (Nat.le_of_ble_eq_true rfl) (by decide) ?_
      refine r_if_ne d_S_learner_16 (fun h16 => absurd (bz_0.mpr (fun z => hP ⟨⟨Int32.not_lt.mp h1, Int32.not_le.mp h7⟩, z⟩)) h16) (fun h16 => ?_)
      refine r_iconst (-1) d_S_learner_19 rfl ?_
      refine r_iret .int d_S_learner_20 rfl rfl ?_
      exact ⟨rfl, rfl⟩
set_option maxHeartbeats 400000 in
theorem c_S_learner_full {k a : Int32} (hP : (0 ≤ k ∧ k < 6) ∧ 0 ≤ a ∧ a ≤ 40) (μ : Me) (hct : μ.1 1 1 = nI 4) : CtI m_S_learner 3 [.ref 0, .int k, .int a] μ (-2) μ := by
  refine Ct.of (ls := [.ref 0, .int k, .int a]) rfl (Nat.le_of_ble_eq_true rfl) rfl (fun X => ?_)
  refine r_iload_n 1 d_S_learner_0 rfl rfl ?_
  refine r_if_lt d_S_learner_1 (fun h1 => absurd h1 (Int32.not_lt.mpr hP.1.1)) (fun h1 => ?_)
  refine r_iload_n 1 d_S_learner_4 rfl rfl ?_
  refine r_bipush (6) d_S_learner_5 (by decide) ?_
  refine r_icmp_ge d_S_learner_7 (fun h7 => absurd h7 (Int32.not_le.mpr hP.1.2)) (fun h7 => ?_)
  refine r_iload_n 2 d_S_learner_10 rfl rfl ?_
  refine r_bipush (40) d_S_learner_11 (by decide) ?_
  refine r_callSi (c_S_isWithin _ _ _) lk_S_118 d_S_learner_13 rfl rfl (Nat.le_of_ble_eq_true rfl) (by decide) ?_
  refine r_if_ne d_S_learner_16 (fun h16 => ?_) (fun h16 => absurd h16 (fun z => bz_np z hP.2))
  refine r_aload_n 0 d_S_learner_21 rfl rfl ?_
  refine r_getR fl_S_12 (by first | with_reducible assumption | rfl) rfl d_S_learner_22 ?_
  refine r_getI fl_S_122 (by first | with_reducible assumption | rfl) rfl d_S_learner_25 ?_
  refine r_iconst 4 d_S_learner_28 rfl ?_
  refine r_icmp_lt d_S_learner_29 (fun h29 => absurd h29 (by rw [hct]; decide)) (fun h29 => ?_)
  refine r_bipush (-2) d_S_learner_32 (by decide) ?_
  refine r_iret .int d_S_learner_34 rfl rfl ?_
  exact ⟨rfl, rfl⟩
set_option maxHeartbeats 400000 in
theorem c_S_learner {k a : Int32} {m : Nat} (hP : (0 ≤ k ∧ k < 6) ∧ 0 ≤ a ∧ a ≤ 40) (hm : m < 4) (μ : Me) (hct : μ.1 1 1 = nI m) : CtI m_S_learner 3 [.ref 0, .int k, .int a] μ (nI m) (uI (r3 (uI (uI μ (8 + 4 * m) 0 k) (8 + 4 * m) 1 a) (8 + 4 * m) (cut 36 firstS (μ.1 (8 + 4 * m + 1))) (cut 36 (fun _ => 0) (μ.1 (8 + 4 * m + 2))) (cut 36 (fun _ => -9) (μ.1 (8 + 4 * m + 3)))) 1 1 (nI (m + 1))) := by
  refine Ct.of (ls := [.ref 0, .int k, .int a]) rfl (Nat.le_of_ble_eq_true rfl) rfl (fun X => ?_)
  refine r_iload_n 1 d_S_learner_0 rfl rfl ?_
  refine r_if_lt d_S_learner_1 (fun h1 => absurd h1 (Int32.not_lt.mpr hP.1.1)) (fun h1 => ?_)
  refine r_iload_n 1 d_S_learner_4 rfl rfl ?_
  refine r_bipush (6) d_S_learner_5 (by decide) ?_
  refine r_icmp_ge d_S_learner_7 (fun h7 => absurd h7 (Int32.not_le.mpr hP.1.2)) (fun h7 => ?_)
  refine r_iload_n 2 d_S_learner_10 rfl rfl ?_
  refine r_bipush (40) d_S_learner_11 (by decide) ?_
  refine r_callSi (c_S_isWithin _ _ _) lk_S_118 d_S_learner_13 rfl rfl (Nat.le_of_ble_eq_true rfl) (by decide) ?_
  refine r_if_ne d_S_learner_16 (fun h16 => ?_) (fun h16 => absurd h16 (fun z => bz_np z hP.2))
  refine r_aload_n 0 d_S_learner_21 rfl rfl ?_
  refine r_getR fl_S_12 (by first | with_reducible assumption | rfl) rfl d_S_learner_22 ?_
  refine r_getI fl_S_122 (by first | with_reducible assumption | rfl) rfl d_S_learner_25 ?_
  refine r_iconst 4 d_S_learner_28 rfl ?_
  refine r_icmp_lt d_S_learner_29 (fun h29 => ?_) (fun h29 => absurd (by rw [hct]; exact nI_lt hm (by decide)) h29)
  refine r_aload_n 0 d_S_learner_35 rfl rfl ?_
  refine r_getR fl_S_12 (by first | with_reducible assumption | rfl) rfl d_S_learner_36 ?_
  refine r_iload_n 1 d_S_learner_39 rfl rfl ?_
  refine r_iload_n 2 d_S_learner_40 rfl rfl ?_
  refine r_callVi (c_School_admit hm _ _ _ hct) lk_S_123 (by first | with_reducible assumption | rfl) d_S_learner_41 rfl rfl (Nat.le_of_ble_eq_true rfl) (by decide) ?_
  refine r_iret .int d_S_learner_44 rfl rfl ?_
  exact ⟨rfl, rfl⟩
set_option maxHeartbeats 400000 in
theorem c_S_nights_bad {n : Int32} (hP : ¬ (0 ≤ n ∧ n ≤ 30)) (μ : Me) : CtI m_S_nights 3 [.ref 0, .int n] μ (-1) μ := by
  refine Ct.of (ls := [.ref 0, .int n]) rfl (Nat.le_of_ble_eq_true rfl) rfl (fun X => ?_)
  refine r_iload_n 1 d_S_nights_0 rfl rfl ?_
  refine r_bipush (30) d_S_nights_1 (by decide) ?_
  refine r_callSi (c_S_isWithin _ _ _) lk_S_118 d_S_nights_3 rfl rfl (Nat.le_of_ble_eq_true rfl) (by decide) ?_
  refine r_if_ne d_S_nights_6 (fun h6 => absurd (bz_0.mpr hP) h6) (fun h6 => ?_)
  refine r_iconst (-1) d_S_nights_9 rfl ?_
  refine r_iret .int d_S_nights_10 rfl rfl ?_
  exact ⟨rfl, rfl⟩
set_option maxHeartbeats 400000 in
theorem c_S_nights {m : Nat} (hm : m ≤ 4) (n : Nat) (hn : n ≤ 30) (μ : Me) (hct : μ.1 1 1 = nI m) (hr : ∀ i, i < m → ∀ p, p < 36 → ¬ (100 * (μ.1 (8 + 4 * i + 2) p + 1) = 0)) : CtI m_S_nights 3 [.ref 0, .int (nI n)] μ (μ.1 1 3 + nI n) (uI (restM (μ.1 3 0) n μ m) 1 3 (μ.1 1 3 + nI n)) := by
  refine Ct.of (ls := [.ref 0, .int (nI n)]) rfl (Nat.le_of_ble_eq_true rfl) rfl (fun X => ?_)
  refine r_iload_n 1 d_S_nights_0 rfl rfl ?_
  refine r_bipush (30) d_S_nights_1 (by decide) ?_
  refine r_callSi (c_S_isWithin _ _ _) lk_S_118 d_S_nights_3 rfl rfl (Nat.le_of_ble_eq_true rfl) (by decide) ?_
  refine r_if_ne d_S_nights_6 (fun h6 => ?_) (fun h6 => absurd h6 (fun z => bz_np z ⟨nI_pos' (by omega), nI_le hn (by decide)⟩))
  refine r_aload_n 0 d_S_nights_11 rfl rfl ?_
  refine r_getR fl_S_12 (by first | with_reducible assumption | rfl) rfl d_S_nights_12 ?_
  refine r_iload_n 1 d_S_nights_15 rfl rfl ?_
  refine r_callVv (c_School_rest hm n (by omega) _ hct hr) lk_S_220 (by first | with_reducible assumption | rfl) d_S_nights_16 rfl rfl (Nat.le_of_ble_eq_true rfl) (by decide) ?_
  refine r_aload_n 0 d_S_nights_19 rfl rfl ?_
  refine r_getR fl_S_12 (by first | with_reducible assumption | rfl) rfl d_S_nights_20 ?_
  refine r_getI fl_S_187 (by first | with_reducible assumption | rfl) rfl d_S_nights_23 ?_
  refine r_iret .int d_S_nights_26 rfl rfl ?_
  exact ⟨by rw [uI_at], rfl⟩
/-- the PAIR that is DUE first, of the first i -/
def cardF (g : Nat → Int32) : Nat → Nat
  | 0 => 0
  | i + 1 => if g (i + 1) < g (cardF g i) then i + 1 else cardF g i
theorem cardF_le (g : Nat → Int32) : ∀ i, cardF g i ≤ i
  | 0 => Nat.le_refl _
  | i + 1 => by
    have := cardF_le g i
    rw [cardF]
    split <;> omega
def dueF (r l : Nat → Int32) (p : Nat) : Int32 := dueS (l p) (r p)
def cardS (g : Nat → Int32) (day : Int32) : Int32 := if day < g (cardF g 35) then -3 else nI (cardF g 35)
set_option maxHeartbeats 400000 in
theorem c_S_card_no {m : Nat} (l : Int32) (μ : Me) (hct : μ.1 1 1 = nI m) (hG : ¬ (0 ≤ l ∧ l < nI m)) : CtI m_S_card 3 [.ref 0, .int l] μ (-1) μ := by
  refine Ct.of (ls := [.ref 0, .int l, flr, flr, flr]) rfl (Nat.le_of_ble_eq_true rfl) rfl (fun X => ?_)
  have hno := lr_no hG
  rw [← hct] at hno
  refine r_aload_n 0 d_S_card_0 rfl rfl ?_
  refine r_getR fl_S_12 (by first | with_reducible assumption | rfl) rfl d_S_card_1 ?_
  refine r_iload_n 1 d_S_card_4 rfl rfl ?_
  refine r_callVa (c_School_learnerAt_no _ _ hno) lk_S_127 (by first | with_reducible assumption | rfl) d_S_card_5 rfl rfl (Nat.le_of_ble_eq_true rfl) (by decide) ?_
  refine r_astore_nN 2 [_, _, _, _, _] d_S_card_8 rfl (by decide) rfl ?_
  refine r_aload_nN 2 d_S_card_9 rfl rfl ?_
  refine r_ifnonnullN d_S_card_10 ?_
  refine r_iconst (-1) d_S_card_13 rfl ?_
  refine r_iret .int d_S_card_14 rfl rfl ?_
  exact ⟨rfl, rfl⟩
set_option maxHeartbeats 400000 in
theorem c_S_card {m j : Nat} (hm : m ≤ 4) (hj : j < m) (μ : Me) (hct : μ.1 1 1 = nI m) : CtI m_S_card 3 [.ref 0, .int (nI j)] μ (cardS (dueF (μ.1 (8 + 4 * j + 2)) (μ.1 (8 + 4 * j + 3))) (μ.1 1 3)) μ := by
  refine Ct.of (ls := [.ref 0, .int (nI j), flr, flr, flr]) rfl (Nat.le_of_ble_eq_true rfl) rfl (fun X => ?_)
  have hj4 : j < 4 := by omega
  have hL := isL_s j hj4
  obtain ⟨s9, s0, s1, s2, s3⟩ := id hL
  generalize hg : dueF (μ.1 (8 + 4 * j + 2)) (μ.1 (8 + 4 * j + 3)) = g
  have eg : ∀ p, dueS (μ.1 (8 + 4 * j + 3) p) (μ.1 (8 + 4 * j + 2) p) = g p := fun p => by rw [← hg]; rfl
  refine r_aload_n 0 d_S_card_0 rfl rfl ?_
  refine r_getR fl_S_12 (by first | with_reducible assumption | rfl) rfl d_S_card_1 ?_
  refine r_iload_n 1 d_S_card_4 rfl rfl ?_
  refine r_callVa (c_School_learnerAt_yes j m hj hm _ hct) lk_S_127 (by first | with_reducible assumption | rfl) d_S_card_5 rfl rfl (Nat.le_of_ble_eq_true rfl) (by decide) ?_
  refine r_astore_n 2 [_, _, _, _, _] d_S_card_8 rfl (by decide) rfl ?_
  refine r_aload_n 2 d_S_card_9 rfl rfl ?_
  refine r_ifnonnull d_S_card_10 ?_
  refine r_iconst 0 d_S_card_15 rfl ?_
  refine r_istore_n 3 [_, _, _, _, _] d_S_card_16 rfl (by decide) rfl ?_
  refine r_iconst 1 d_S_card_17 rfl ?_
  refine r_istore 4 [_, _, _, _, _] d_S_card_18 (by decide) rfl ?_
  refine lpN 35 (fun i (w : Nat) => Wa X m_S_card 3 20 [.ref 0, .int (nI j), .ref (8 + 4 * j), .int (nI w), .int (nI (i + 1))] [] μ _) (fun i w => w = cardF g i) ?_ 0 0 (Nat.zero_le _) rfl
  intro i w hi hw hk
  have hw35 : w < 36 := by have := cardF_le g i; omega
  refine r_iload 4 d_S_card_20 rfl ?_
  refine r_bipush (36) d_S_card_22 (by decide) ?_
  refine r_icmp_ge d_S_card_24 (fun h24 => ?_) (fun h24 => ?_)
  · have hge := n_le (a := 36) h24 rfl rfl (by decide) (by omega)
    obtain rfl : i = 35 := by omega
    refine r_aload_n 2 d_S_card_50 rfl rfl ?_
    refine r_iload_n 3 d_S_card_51 rfl rfl ?_
    refine r_callVi (c_Learner_due hL hw35 _) lk_S_178 (by first | with_reducible assumption | rfl) d_S_card_52 rfl rfl (Nat.le_of_ble_eq_true rfl) (by decide) ?_
    rw [eg]
    refine r_aload_n 0 d_S_card_55 rfl rfl ?_
    refine r_getR fl_S_12 (by first | with_reducible assumption | rfl) rfl d_S_card_56 ?_
    refine r_getI fl_S_187 (by first | with_reducible assumption | rfl) rfl d_S_card_59 ?_
    refine r_icmp_le d_S_card_62 (fun h62 => ?_) (fun h62 => ?_)
    · refine r_iload_n 3 d_S_card_70 rfl rfl ?_
      refine r_iret .int d_S_card_71 rfl rfl ?_
      refine ⟨?_, rfl⟩
      rw [cardS, ← hw]
      first
        | rw [if_neg (Int32.not_lt.mpr h62)]
        | rw [if_pos (Int32.not_le.mp h62)]
    · refine r_bipush (-3) d_S_card_65 (by decide) ?_
      refine r_goto d_S_card_67 ?_
      refine r_iret .int d_S_card_71 rfl rfl ?_
      refine ⟨?_, rfl⟩
      rw [cardS, ← hw]
      first
        | rw [if_neg (Int32.not_lt.mpr h62)]
        | rw [if_pos (Int32.not_le.mp h62)]
  · have hl : i + 1 < 36 := n_lt (a := 36) h24 rfl rfl (by decide) (by omega)
    refine r_aload_n 2 d_S_card_27 rfl rfl ?_
    refine r_iload 4 d_S_card_28 rfl ?_
    refine r_callVi (c_Learner_due hL hl _) lk_S_178 (by first | with_reducible assumption | rfl) d_S_card_30 rfl rfl (Nat.le_of_ble_eq_true rfl) (by decide) ?_
    refine r_aload_n 2 d_S_card_33 rfl rfl ?_
    refine r_iload_n 3 d_S_card_34 rfl rfl ?_
    refine r_callVi (c_Learner_due hL hw35 _) lk_S_178 (by first | with_reducible assumption | rfl) d_S_card_35 rfl rfl (Nat.le_of_ble_eq_true rfl) (by decide) ?_
    rw [eg, eg]
    refine r_icmp_ge d_S_card_38 (fun h38 => ?_) (fun h38 => ?_)
    · first | refine r_iincN 4 [_, _, _, _, _] d_S_card_44 (by decide) rfl rfl ?_ | refine r_iinc 4 [_, _, _, _, _] (1) d_S_card_44 (by decide) (by decide) rfl rfl ?_
      refine r_goto d_S_card_47 ?_
      refine hk _ (by omega) ?_
      rw [cardF, ← hw]
      first
        | exact (if_neg (Int32.not_lt.mpr h38)).symm
        | exact (if_pos (Int32.not_le.mp h38)).symm
    · refine r_iload 4 d_S_card_41 rfl ?_
      refine r_istore_n 3 [_, _, _, _, _] d_S_card_43 rfl (by decide) rfl ?_
      first | refine r_iincN 4 [_, _, _, _, _] d_S_card_44 (by decide) rfl rfl ?_ | refine r_iinc 4 [_, _, _, _, _] (1) d_S_card_44 (by decide) (by decide) rfl rfl ?_
      refine r_goto d_S_card_47 ?_
      refine hk _ (by omega) ?_
      rw [cardF, ← hw]
      first
        | exact (if_neg (Int32.not_lt.mpr h38)).symm
        | exact (if_pos (Int32.not_le.mp h38)).symm
/-- KNOWN: the first i PAIRS -/
def knB (k a : Int32) (f : Nat → Int32) (t g s : Int32) (p : Nat) : Bool := decide ((findS k a f p t g s).2.1 = 0 ∨ (findS k a f p t g s).2.1 = 1)
def knF (b : Nat → Bool) : Nat → Int64
  | 0 => 0
  | i + 1 => if b i then knF b i ||| 1 <<< ((nI i).toInt64 &&& 63) else knF b i
/-- the Answer is what was found last: no more is said of it -/
def anyA (μ μ' : Me) : Prop := ∃ q, μ' = ansM μ q
theorem ansM_ansM {μ : Me} {q q' : Int32 × Int32 × Int32 × Int32} : ansM (ansM μ q) q' = ansM μ q' := by
  refine Me_ext (fun c' j' => ?_) (fun _ _ => rfl)
  by_cases h : c' = 57
  · subst h
    simp only [ansM, uI, rI, if_true, upd]
    grind
  · simp [ansM, uI, rI, h]
