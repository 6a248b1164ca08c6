/-! a School copied into the other; THE TAPE takes bytes -/
def cpyM (s a s' a' : Nat) (μ : Me) : Nat → Me
  | 0 => uI μ s 1 (μ.1 s' 1)
  | i + 1 => r3 (uI (uI (cpyM s a s' a' μ i) (a + 4 * i) 0 (μ.1 (a' + 4 * i) 0)) (a + 4 * i) 1 (μ.1 (a' + 4 * i) 1)) (a + 4 * i) (cut 36 (μ.1 (a' + 4 * i + 1)) (μ.1 (a + 4 * i + 1))) (cut 36 (μ.1 (a' + 4 * i + 2)) (μ.1 (a + 4 * i + 2))) (cut 36 (μ.1 (a' + 4 * i + 3)) (μ.1 (a + 4 * i + 3)))
theorem cpyM_ne (s a s' a' : Nat) (μ : Me) (c : Nat) (hc : c ≠ s) : ∀ i, (c < a ∨ a + 4 * i ≤ c) → (cpyM s a s' a' μ i).1 c = μ.1 c
  | 0, _ => uI_ne hc
  | i + 1, h => by rw [cpyM, r3_ne (by omega) (by omega) (by omega), uI_ne (by omega), uI_ne (by omega), cpyM_ne s a s' a' μ c hc i (by omega)]
theorem cpyM_s (s a s' a' : Nat) (μ : Me) (hs : s < a) : ∀ i, (cpyM s a s' a' μ i).1 s = upd (μ.1 s) 1 (μ.1 s' 1)
  | 0 => uI_eq
  | i + 1 => by rw [cpyM, r3_ne (by omega) (by omega) (by omega), uI_ne (by omega), uI_ne (by omega), cpyM_s s a s' a' μ hs i]
def schM (s a s' a' m : Nat) (μ : Me) : Me :=
  uI (r3 (uI (uI (rI (cpyM s a s' a' μ m) (s + 2) (cut 3 (μ.1 (s' + 2)) (μ.1 (s + 2)))) s 3 (μ.1 s' 3)) s 4 (μ.1 s' 4)) (s + 3) (cut 12 (μ.1 (s' + 4)) (μ.1 (s + 4))) (cut 12 (μ.1 (s' + 5)) (μ.1 (s + 5))) (cut 12 (μ.1 (s' + 6)) (μ.1 (s + 6)))) (s + 3) 3 (μ.1 (s' + 3) 3)
set_option maxHeartbeats 400000 in
theorem c_School_copyFrom_again {m : Nat} (hm : m ≤ 4) (μ : Me) (hct : μ.1 24 1 = nI m) : CtV m_School_copyFrom 2 [.ref 1, .ref 24] μ (schM 1 8 24 31 m μ) := by
  refine Ct.of (ls := [.ref 1, .ref 24, flr]) rfl (Nat.le_of_ble_eq_true rfl) rfl (fun X => ?_)
  have es : ∀ i, (cpyM 1 8 24 31 μ i).1 1 1 = nI m := fun i => by rw [cpyM_s _ _ _ _ _ (by decide), upd, if_pos rfl, hct]
  refine r_aload_n 0 d_School_copyFrom_0 rfl rfl ?_
  refine r_aload_n 1 d_School_copyFrom_1 rfl rfl ?_
  refine r_getI fl_School_17 (by first | with_reducible assumption | rfl) rfl d_School_copyFrom_2 ?_
  refine r_putI fp_School_17 (by first | with_reducible assumption | rfl) rfl d_School_copyFrom_5 ?_
  refine r_iconst 0 d_School_copyFrom_8 rfl ?_
  refine r_istore_n 2 [_, _, _] d_School_copyFrom_9 rfl (by decide) rfl ?_
  refine lpN m (fun i (μ1 : Me) => Wa X m_School_copyFrom 2 10 [.ref 1, .ref 24, .int (nI i)] [] μ1 _) (fun i μ1 => μ1 = cpyM 1 8 24 31 μ i) ?_ 0 _ (Nat.zero_le _) rfl
  intro i μ1 hi hw hk
  subst hw
  refine r_iload_n 2 d_School_copyFrom_10 rfl rfl ?_
  refine r_aload_n 0 d_School_copyFrom_11 rfl rfl ?_
  refine r_getI fl_School_17 (by first | with_reducible assumption | rfl) rfl d_School_copyFrom_12 ?_
  refine r_icmp_ge d_School_copyFrom_15 (fun h15 => ?_) (fun h15 => ?_)
  · have hge := n_le h15 (es i) rfl (by omega) (by omega)
    obtain rfl : i = m := by omega
    have q3 : (cpyM 1 8 24 31 μ i).1 24 = μ.1 24 := cpyM_ne _ _ _ _ _ _ (by decide) i (by omega)
    have ql : (cpyM 1 8 24 31 μ i).1 26 = μ.1 26 := cpyM_ne _ _ _ _ _ _ (by decide) i (by omega)
    have qk : (cpyM 1 8 24 31 μ i).1 3 = μ.1 3 := cpyM_ne _ _ _ _ _ _ (by decide) i (by omega)
    have r0 : (cpyM 1 8 24 31 μ i).1 27 = μ.1 27 := cpyM_ne _ _ _ _ _ _ (by decide) i (by omega)
    have r1 : (cpyM 1 8 24 31 μ i).1 28 = μ.1 28 := cpyM_ne _ _ _ _ _ _ (by decide) i (by omega)
    have r2 : (cpyM 1 8 24 31 μ i).1 29 = μ.1 29 := cpyM_ne _ _ _ _ _ _ (by decide) i (by omega)
    have r3' : (cpyM 1 8 24 31 μ i).1 30 = μ.1 30 := cpyM_ne _ _ _ _ _ _ (by decide) i (by omega)
    have t1 : (cpyM 1 8 24 31 μ i).1 5 = μ.1 5 := cpyM_ne _ _ _ _ _ _ (by decide) i (by omega)
    have t2 : (cpyM 1 8 24 31 μ i).1 6 = μ.1 6 := cpyM_ne _ _ _ _ _ _ (by decide) i (by omega)
    have t3 : (cpyM 1 8 24 31 μ i).1 7 = μ.1 7 := cpyM_ne _ _ _ _ _ _ (by decide) i (by omega)
    refine r_aload_n 1 d_School_copyFrom_39 rfl rfl ?_
    refine r_getR fl_School_21 (by first | with_reducible assumption | rfl) rfl d_School_copyFrom_40 ?_
    refine r_iconst 0 d_School_copyFrom_43 rfl ?_
    refine r_aload_n 0 d_School_copyFrom_44 rfl rfl ?_
    refine r_getR fl_School_21 (by first | with_reducible assumption | rfl) rfl d_School_copyFrom_45 ?_
    refine r_iconst 0 d_School_copyFrom_48 rfl ?_
    refine r_iconst 3 d_School_copyFrom_49 rfl ?_
    refine r_copy ac_School_50 (by first | with_reducible assumption | rfl) (by first | with_reducible assumption | rfl) (by decide) (by decide) (by decide) d_School_copyFrom_50 (Nat.le_of_ble_eq_true rfl) (by decide) ?_
    refine r_aload_n 0 d_School_copyFrom_53 rfl rfl ?_
    refine r_aload_n 1 d_School_copyFrom_54 rfl rfl ?_
    refine r_getI fl_School_25 (by first | with_reducible assumption | rfl) rfl d_School_copyFrom_55 ?_
    refine r_putI fp_School_25 (by first | with_reducible assumption | rfl) rfl d_School_copyFrom_58 ?_
    refine r_aload_n 0 d_School_copyFrom_61 rfl rfl ?_
    refine r_aload_n 1 d_School_copyFrom_62 rfl rfl ?_
    refine r_getI fl_School_28 (by first | with_reducible assumption | rfl) rfl d_School_copyFrom_63 ?_
    refine r_putI fp_School_28 (by first | with_reducible assumption | rfl) rfl d_School_copyFrom_66 ?_
    refine r_aload_n 0 d_School_copyFrom_69 rfl rfl ?_
    refine r_getR fl_School_34 (by first | with_reducible assumption | rfl) rfl d_School_copyFrom_70 ?_
    refine r_aload_n 1 d_School_copyFrom_73 rfl rfl ?_
    refine r_getR fl_School_34 (by first | with_reducible assumption | rfl) rfl d_School_copyFrom_74 ?_
    refine r_callVv (c_Lesson_copyFrom isLs_4 isLs_27 (Or.inl (by decide)) _) lk_School_56 (by first | with_reducible assumption | rfl) d_School_copyFrom_77 rfl rfl (Nat.le_of_ble_eq_true rfl) (by decide) ?_
    refine r_ret d_School_copyFrom_80 rfl ?_
    refine ⟨rfl, ?_⟩
    have e3' : (Int32.toNatClampNeg 3) = 3 := by decide
    simp only [cpy_cut, e3']
    simp only [schM, uI, rI, Nat.reduceEqDiff, if_true, if_false, Nat.reduceAdd, reduceCtorEq, q3, ql, qk, r0, r1, r2, r3', t1, t2, t3]
  · have hl : i < m := n_lt h15 (es i) rfl (by omega) (by omega)
    have hl4 : i < 4 := by omega
    obtain ⟨s9, s0, s1, s2, s3⟩ := isL_s i hl4
    have e0 : (cpyM 1 8 24 31 μ i).1 (31 + 4 * i) = μ.1 (31 + 4 * i) := cpyM_ne _ _ _ _ _ _ (by omega) i (by omega)
    have e1 : (cpyM 1 8 24 31 μ i).1 (31 + 4 * i + 1) = μ.1 (31 + 4 * i + 1) := cpyM_ne _ _ _ _ _ _ (by omega) i (by omega)
    have e2 : (cpyM 1 8 24 31 μ i).1 (31 + 4 * i + 2) = μ.1 (31 + 4 * i + 2) := cpyM_ne _ _ _ _ _ _ (by omega) i (by omega)
    have e3 : (cpyM 1 8 24 31 μ i).1 (31 + 4 * i + 3) = μ.1 (31 + 4 * i + 3) := cpyM_ne _ _ _ _ _ _ (by omega) i (by omega)
    have g1 : (cpyM 1 8 24 31 μ i).1 (8 + 4 * i + 1) = μ.1 (8 + 4 * i + 1) := cpyM_ne _ _ _ _ _ _ (by omega) i (by omega)
    have g2 : (cpyM 1 8 24 31 μ i).1 (8 + 4 * i + 2) = μ.1 (8 + 4 * i + 2) := cpyM_ne _ _ _ _ _ _ (by omega) i (by omega)
    have g3 : (cpyM 1 8 24 31 μ i).1 (8 + 4 * i + 3) = μ.1 (8 + 4 * i + 3) := cpyM_ne _ _ _ _ _ _ (by omega) i (by omega)
    refine r_aload_n 0 d_School_copyFrom_18 rfl rfl ?_
    refine r_getR fl_School_11 (by first | with_reducible assumption | rfl) rfl d_School_copyFrom_19 ?_
    refine r_iload_n 2 d_School_copyFrom_22 rfl rfl ?_
    refine r_aald3N (by first | with_reducible assumption | rfl) (by decide) (by first | with_reducible assumption | omega | decide | assumption) d_School_copyFrom_23 ?_
    refine r_aload_n 1 d_School_copyFrom_24 rfl rfl ?_
    refine r_getR fl_School_11 (by first | with_reducible assumption | rfl) rfl d_School_copyFrom_25 ?_
    refine r_iload_n 2 d_School_copyFrom_28 rfl rfl ?_
    refine r_aald3N (by first | with_reducible assumption | rfl) (by decide) (by first | with_reducible assumption | omega | decide | assumption) d_School_copyFrom_29 ?_
    refine r_callVv (c_Learner_copyFrom (isL_s i hl4) (isL_k i hl4) (Or.inl (by omega)) _) lk_School_46 (by first | with_reducible assumption | rfl) d_School_copyFrom_30 rfl rfl (Nat.le_of_ble_eq_true rfl) (by decide) ?_
    first | refine r_iincN 2 [_, _, _] d_School_copyFrom_33 (by decide) rfl rfl ?_ | refine r_iinc 2 [_, _, _] (1) d_School_copyFrom_33 (by decide) (by decide) rfl rfl ?_
    refine r_goto d_School_copyFrom_36 ?_
    refine hk _ hl ?_
    rw [e0, e1, e2, e3, g1, g2, g3]
    rfl
set_option maxHeartbeats 400000 in
theorem c_School_copyFrom_keep {m : Nat} (hm : m ≤ 4) (μ : Me) (hct : μ.1 1 1 = nI m) : CtV m_School_copyFrom 2 [.ref 24, .ref 1] μ (schM 24 31 1 8 m μ) := by
  refine Ct.of (ls := [.ref 24, .ref 1, flr]) rfl (Nat.le_of_ble_eq_true rfl) rfl (fun X => ?_)
  have es : ∀ i, (cpyM 24 31 1 8 μ i).1 24 1 = nI m := fun i => by rw [cpyM_s _ _ _ _ _ (by decide), upd, if_pos rfl, hct]
  refine r_aload_n 0 d_School_copyFrom_0 rfl rfl ?_
  refine r_aload_n 1 d_School_copyFrom_1 rfl rfl ?_
  refine r_getI fl_School_17 (by first | with_reducible assumption | rfl) rfl d_School_copyFrom_2 ?_
  refine r_putI fp_School_17 (by first | with_reducible assumption | rfl) rfl d_School_copyFrom_5 ?_
  refine r_iconst 0 d_School_copyFrom_8 rfl ?_
  refine r_istore_n 2 [_, _, _] d_School_copyFrom_9 rfl (by decide) rfl ?_
  refine lpN m (fun i (μ1 : Me) => Wa X m_School_copyFrom 2 10 [.ref 24, .ref 1, .int (nI i)] [] μ1 _) (fun i μ1 => μ1 = cpyM 24 31 1 8 μ i) ?_ 0 _ (Nat.zero_le _) rfl
  intro i μ1 hi hw hk
  subst hw
  refine r_iload_n 2 d_School_copyFrom_10 rfl rfl ?_
  refine r_aload_n 0 d_School_copyFrom_11 rfl rfl ?_
  refine r_getI fl_School_17 (by first | with_reducible assumption | rfl) rfl d_School_copyFrom_12 ?_
  refine r_icmp_ge d_School_copyFrom_15 (fun h15 => ?_) (fun h15 => ?_)
  · have hge := n_le h15 (es i) rfl (by omega) (by omega)
    obtain rfl : i = m := by omega
    have q3 : (cpyM 24 31 1 8 μ i).1 1 = μ.1 1 := cpyM_ne _ _ _ _ _ _ (by decide) i (by omega)
    have ql : (cpyM 24 31 1 8 μ i).1 3 = μ.1 3 := cpyM_ne _ _ _ _ _ _ (by decide) i (by omega)
    have qk : (cpyM 24 31 1 8 μ i).1 26 = μ.1 26 := cpyM_ne _ _ _ _ _ _ (by decide) i (by omega)
    have r0 : (cpyM 24 31 1 8 μ i).1 4 = μ.1 4 := cpyM_ne _ _ _ _ _ _ (by decide) i (by omega)
    have r1 : (cpyM 24 31 1 8 μ i).1 5 = μ.1 5 := cpyM_ne _ _ _ _ _ _ (by decide) i (by omega)
    have r2 : (cpyM 24 31 1 8 μ i).1 6 = μ.1 6 := cpyM_ne _ _ _ _ _ _ (by decide) i (by omega)
    have r3' : (cpyM 24 31 1 8 μ i).1 7 = μ.1 7 := cpyM_ne _ _ _ _ _ _ (by decide) i (by omega)
    have t1 : (cpyM 24 31 1 8 μ i).1 28 = μ.1 28 := cpyM_ne _ _ _ _ _ _ (by decide) i (by omega)
    have t2 : (cpyM 24 31 1 8 μ i).1 29 = μ.1 29 := cpyM_ne _ _ _ _ _ _ (by decide) i (by omega)
    have t3 : (cpyM 24 31 1 8 μ i).1 30 = μ.1 30 := cpyM_ne _ _ _ _ _ _ (by decide) i (by omega)
    refine r_aload_n 1 d_School_copyFrom_39 rfl rfl ?_
    refine r_getR fl_School_21 (by first | with_reducible assumption | rfl) rfl d_School_copyFrom_40 ?_
    refine r_iconst 0 d_School_copyFrom_43 rfl ?_
    refine r_aload_n 0 d_School_copyFrom_44 rfl rfl ?_
    refine r_getR fl_School_21 (by first | with_reducible assumption | rfl) rfl d_School_copyFrom_45 ?_
    refine r_iconst 0 d_School_copyFrom_48 rfl ?_
    refine r_iconst 3 d_School_copyFrom_49 rfl ?_
    refine r_copy ac_School_50 (by first | with_reducible assumption | rfl) (by first | with_reducible assumption | rfl) (by decide) (by decide) (by decide) d_School_copyFrom_50 (Nat.le_of_ble_eq_true rfl) (by decide) ?_
    refine r_aload_n 0 d_School_copyFrom_53 rfl rfl ?_
    refine r_aload_n 1 d_School_copyFrom_54 rfl rfl ?_
    refine r_getI fl_School_25 (by first | with_reducible assumption | rfl) rfl d_School_copyFrom_55 ?_
    refine r_putI fp_School_25 (by first | with_reducible assumption | rfl) rfl d_School_copyFrom_58 ?_
    refine r_aload_n 0 d_School_copyFrom_61 rfl rfl ?_
    refine r_aload_n 1 d_School_copyFrom_62 rfl rfl ?_
    refine r_getI fl_School_28 (by first | with_reducible assumption | rfl) rfl d_School_copyFrom_63 ?_
    refine r_putI fp_School_28 (by first | with_reducible assumption | rfl) rfl d_School_copyFrom_66 ?_
    refine r_aload_n 0 d_School_copyFrom_69 rfl rfl ?_
    refine r_getR fl_School_34 (by first | with_reducible assumption | rfl) rfl d_School_copyFrom_70 ?_
    refine r_aload_n 1 d_School_copyFrom_73 rfl rfl ?_
    refine r_getR fl_School_34 (by first | with_reducible assumption | rfl) rfl d_School_copyFrom_74 ?_
    refine r_callVv (c_Lesson_copyFrom isLs_27 isLs_4 (Or.inr (by decide)) _) lk_School_56 (by first | with_reducible assumption | rfl) d_School_copyFrom_77 rfl rfl (Nat.le_of_ble_eq_true rfl) (by decide) ?_
    refine r_ret d_School_copyFrom_80 rfl ?_
    refine ⟨rfl, ?_⟩
    have e3' : (Int32.toNatClampNeg 3) = 3 := by decide
    simp only [cpy_cut, e3']
    simp only [schM, uI, rI, Nat.reduceEqDiff, if_true, if_false, Nat.reduceAdd, reduceCtorEq, q3, ql, qk, r0, r1, r2, r3', t1, t2, t3]
  · have hl : i < m := n_lt h15 (es i) rfl (by omega) (by omega)
    have hl4 : i < 4 := by omega
    obtain ⟨s9, s0, s1, s2, s3⟩ := isL_k i hl4
    have e0 : (cpyM 24 31 1 8 μ i).1 (8 + 4 * i) = μ.1 (8 + 4 * i) := cpyM_ne _ _ _ _ _ _ (by omega) i (by omega)
    have e1 : (cpyM 24 31 1 8 μ i).1 (8 + 4 * i + 1) = μ.1 (8 + 4 * i + 1) := cpyM_ne _ _ _ _ _ _ (by omega) i (by omega)
    have e2 : (cpyM 24 31 1 8 μ i).1 (8 + 4 * i + 2) = μ.1 (8 + 4 * i + 2) := cpyM_ne _ _ _ _ _ _ (by omega) i (by omega)
    have e3 : (cpyM 24 31 1 8 μ i).1 (8 + 4 * i + 3) = μ.1 (8 + 4 * i + 3) := cpyM_ne _ _ _ _ _ _ (by omega) i (by omega)
    have g1 : (cpyM 24 31 1 8 μ i).1 (31 + 4 * i + 1) = μ.1 (31 + 4 * i + 1) := cpyM_ne _ _ _ _ _ _ (by omega) i (by omega)
    have g2 : (cpyM 24 31 1 8 μ i).1 (31 + 4 * i + 2) = μ.1 (31 + 4 * i + 2) := cpyM_ne _ _ _ _ _ _ (by omega) i (by omega)
    have g3 : (cpyM 24 31 1 8 μ i).1 (31 + 4 * i + 3) = μ.1 (31 + 4 * i + 3) := cpyM_ne _ _ _ _ _ _ (by omega) i (by omega)
    refine r_aload_n 0 d_School_copyFrom_18 rfl rfl ?_
    refine r_getR fl_School_11 (by first | with_reducible assumption | rfl) rfl d_School_copyFrom_19 ?_
    refine r_iload_n 2 d_School_copyFrom_22 rfl rfl ?_
    refine r_aald3N (by first | with_reducible assumption | rfl) (by decide) (by first | with_reducible assumption | omega | decide | assumption) d_School_copyFrom_23 ?_
    refine r_aload_n 1 d_School_copyFrom_24 rfl rfl ?_
    refine r_getR fl_School_11 (by first | with_reducible assumption | rfl) rfl d_School_copyFrom_25 ?_
    refine r_iload_n 2 d_School_copyFrom_28 rfl rfl ?_
    refine r_aald3N (by first | with_reducible assumption | rfl) (by decide) (by first | with_reducible assumption | omega | decide | assumption) d_School_copyFrom_29 ?_
    refine r_callVv (c_Learner_copyFrom (isL_k i hl4) (isL_s i hl4) (Or.inr (by omega)) _) lk_School_46 (by first | with_reducible assumption | rfl) d_School_copyFrom_30 rfl rfl (Nat.le_of_ble_eq_true rfl) (by decide) ?_
    first | refine r_iincN 2 [_, _, _] d_School_copyFrom_33 (by decide) rfl rfl ?_ | refine r_iinc 2 [_, _, _] (1) d_School_copyFrom_33 (by decide) (by decide) rfl rfl ?_
    refine r_goto d_School_copyFrom_36 ?_
    refine hk _ hl ?_
    rw [e0, e1, e2, e3, g1, g2, g3]
    rfl
set_option maxHeartbeats 400000 in
theorem c_S_keep {m : Nat} (hm : m ≤ 4) (μ : Me) (hct : μ.1 1 1 = nI m) : CtI m_S_keep 3 [.ref 0] μ 1 (uI (schM 24 31 1 8 m μ) 0 2 1) := by
  refine Ct.of (ls := [.ref 0]) rfl (Nat.le_of_ble_eq_true rfl) rfl (fun X => ?_)
  refine r_aload_n 0 d_S_keep_0 rfl rfl ?_
  refine r_getR fl_S_16 (by first | with_reducible assumption | rfl) rfl d_S_keep_1 ?_
  refine r_aload_n 0 d_S_keep_4 rfl rfl ?_
  refine r_getR fl_S_12 (by first | with_reducible assumption | rfl) rfl d_S_keep_5 ?_
  refine r_callVv (c_School_copyFrom_keep hm _ hct) lk_S_389 (by first | with_reducible assumption | rfl) d_S_keep_8 rfl rfl (Nat.le_of_ble_eq_true rfl) (by decide) ?_
  refine r_aload_n 0 d_S_keep_11 rfl rfl ?_
  refine r_iconst 1 d_S_keep_12 rfl ?_
  refine r_putZ fp_S_19 (by first | with_reducible assumption | rfl) rfl (by first | exact Or.inl rfl | exact Or.inr rfl | assumption) d_S_keep_13 ?_
  refine r_iconst 1 d_S_keep_16 rfl ?_
  refine r_iret .int d_S_keep_17 rfl rfl ?_
  exact ⟨rfl, rfl⟩
set_option maxHeartbeats 400000 in
theorem c_S_again_no (μ : Me) (hk : μ.1 0 2 = 0) : CtI m_S_again 3 [.ref 0] μ (-3) μ := by
  refine Ct.of (ls := [.ref 0]) rfl (Nat.le_of_ble_eq_true rfl) rfl (fun X => ?_)
  refine r_aload_n 0 d_S_again_0 rfl rfl ?_
  refine r_getI fl_S_19 (by first | with_reducible assumption | rfl) rfl d_S_again_1 ?_
  refine r_if_ne d_S_again_4 (fun h4 => absurd hk h4) (fun h4 => ?_)
  refine r_bipush (-3) d_S_again_7 (by decide) ?_
  refine r_iret .int d_S_again_9 rfl rfl ?_
  exact ⟨rfl, rfl⟩
set_option maxHeartbeats 400000 in
theorem c_S_again {m : Nat} (hm : m ≤ 4) (μ : Me) (hk : ¬ μ.1 0 2 = 0) (hct : μ.1 24 1 = nI m) : CtI m_S_again 3 [.ref 0] μ (nI m) (schM 1 8 24 31 m μ) := by
  refine Ct.of (ls := [.ref 0]) rfl (Nat.le_of_ble_eq_true rfl) rfl (fun X => ?_)
  refine r_aload_n 0 d_S_again_0 rfl rfl ?_
  refine r_getI fl_S_19 (by first | with_reducible assumption | rfl) rfl d_S_again_1 ?_
  refine r_if_ne d_S_again_4 (fun h4 => ?_) (fun h4 => absurd h4 hk)
  refine r_aload_n 0 d_S_again_10 rfl rfl ?_
  refine r_getR fl_S_12 (by first | with_reducible assumption | rfl) rfl d_S_again_11 ?_
  refine r_aload_n 0 d_S_again_14 rfl rfl ?_
  refine r_getR fl_S_16 (by first | with_reducible assumption | rfl) rfl d_S_again_15 ?_
  refine r_callVv (c_School_copyFrom_again hm _ hct) lk_S_389 (by first | with_reducible assumption | rfl) d_S_again_18 rfl rfl (Nat.le_of_ble_eq_true rfl) (by decide) ?_
  refine r_aload_n 0 d_S_again_21 rfl rfl ?_
  refine r_getR fl_S_12 (by first | with_reducible assumption | rfl) rfl d_S_again_22 ?_
  refine r_getI fl_S_122 (by first | with_reducible assumption | rfl) rfl d_S_again_25 ?_
  refine r_iret .int d_S_again_28 rfl rfl ?_
  refine ⟨?_, rfl⟩
  rw [schM, uI_ne (by decide), r3_ne (by decide) (by decide) (by decide), uI_off (by decide), uI_off (by decide), rI_ne (by decide), cpyM_s _ _ _ _ _ (by decide), upd, if_pos rfl, hct]
set_option maxHeartbeats 400000 in
theorem c_Text_append {n : Nat} (hn : n < 200) (b : Int32) (μ : Me) (hct : μ.1 47 1 = nI n) : CtV m_Text_append 0 [.ref 47, .int b] μ (uI (uI μ 48 n (vp_nar .byte b)) 47 1 (nI (n + 1))) := by
  refine Ct.of (ls := [.ref 47, .int b]) rfl (Nat.le_of_ble_eq_true rfl) rfl (fun X => ?_)
  refine r_aload_n 0 d_Text_append_0 rfl rfl ?_
  refine r_getI fl_Text_15 (by first | with_reducible assumption | rfl) rfl d_Text_append_1 ?_
  refine r_sipush (200) d_Text_append_4 (by decide) ?_
  refine r_icmp_lt d_Text_append_7 (fun h7 => ?_) (fun h7 => absurd (by rw [hct]; exact nI_lt hn (by decide)) h7)
  refine r_aload_n 0 d_Text_append_11 rfl rfl ?_
  refine r_getR fl_Text_9 (by first | with_reducible assumption | rfl) rfl d_Text_append_12 ?_
  refine r_aload_n 0 d_Text_append_15 rfl rfl ?_
  refine r_getI fl_Text_15 (by first | with_reducible assumption | rfl) rfl d_Text_append_16 ?_
  rw [hct]
  refine r_iload_n 1 d_Text_append_19 rfl rfl ?_
  refine r_bastN (by first | with_reducible assumption | rfl) (by first | with_reducible assumption | omega | decide | assumption) d_Text_append_20 ?_
  refine r_aload_n 0 d_Text_append_21 rfl rfl ?_
  refine r_dup d_Text_append_22 rfl ?_
  refine r_getI fl_Text_15 (by first | with_reducible assumption | rfl) rfl d_Text_append_23 ?_
  refine r_iconst 1 d_Text_append_26 rfl ?_
  refine r_iadd d_Text_append_27 ?_
  refine r_putI fp_Text_15 (by first | with_reducible assumption | rfl) rfl d_Text_append_28 ?_
  refine r_ret d_Text_append_31 rfl ?_
  exact ⟨rfl, by rw [uI_ne (by decide), hct, nI_succ]⟩
def byteS (e : Int64) (k : Nat) : Int32 := vp_nar .byte (ush e (8 * nI k)).toInt32.toInt8.toInt32
/-- the bytes that come to THE TAPE -/
def tapF (e : Int64) (n : Nat) (f : Nat → Int32) : Nat → Nat → Int32
  | 0 => f
  | k + 1 => upd (tapF e n f k) (n + k) (byteS e k)
set_option maxHeartbeats 400000 in
theorem c_S_feed_bad {n : Int32} (e : Int64) (hP : ¬ (1 ≤ n ∧ n ≤ 8)) (μ : Me) : CtI m_S_feed 1 [.ref 0, .long e, .int n] μ (-1) μ := by
  refine Ct.of (ls := [.ref 0, .long e, flr, .int n, flr]) rfl (Nat.le_of_ble_eq_true rfl) rfl (fun X => ?_)
  refine r_iload_n 3 d_S_feed_0 rfl rfl ?_
  refine r_iconst 1 d_S_feed_1 rfl ?_
  refine r_icmp_lt d_S_feed_2 (fun h2 => ?_) (fun h2 => ?_)
  · refine r_iconst (-1) d_S_feed_11 rfl ?_
    refine r_iret .int d_S_feed_12 rfl rfl ?_
    exact ⟨rfl, rfl⟩
  · refine r_iload_n 3 d_S_feed_5 rfl rfl ?_
    refine r_bipush (8) d_S_feed_6 (by decide) ?_
    refine r_icmp_le d_S_feed_8 (fun h8 => absurd h8 (fun z => hP ⟨Int32.not_lt.mp h2, z⟩)) (fun h8 => ?_)
    refine r_iconst (-1) d_S_feed_11 rfl ?_
    refine r_iret .int d_S_feed_12 rfl rfl ?_
    exact ⟨rfl, rfl⟩
set_option maxHeartbeats 400000 in
theorem c_S_feed_full {n t : Nat} (e : Int64) (hP : 1 ≤ n ∧ n ≤ 8) (ht : t ≤ 200) (hf : 200 < t + n) (μ : Me) (hct : μ.1 47 1 = nI t) : CtI m_S_feed 1 [.ref 0, .long e, .int (nI n)] μ (-2) μ := by
  refine Ct.of (ls := [.ref 0, .long e, flr, .int (nI n), flr]) rfl (Nat.le_of_ble_eq_true rfl) rfl (fun X => ?_)
  refine r_iload_n 3 d_S_feed_0 rfl rfl ?_
  refine r_iconst 1 d_S_feed_1 rfl ?_
  refine r_icmp_lt d_S_feed_2 (fun h2 => absurd h2 (nI_nlt (a := n) (b := 1) hP.1 (by omega))) (fun h2 => ?_)
  refine r_iload_n 3 d_S_feed_5 rfl rfl ?_
  refine r_bipush (8) d_S_feed_6 (by decide) ?_
  refine r_icmp_le d_S_feed_8 (fun h8 => ?_) (fun h8 => absurd (nI_le hP.2 (by decide)) h8)
  refine r_aload_n 0 d_S_feed_13 rfl rfl ?_
  refine r_getR fl_S_26 (by first | with_reducible assumption | rfl) rfl d_S_feed_14 ?_
  refine r_getI fl_S_93 (by first | with_reducible assumption | rfl) rfl d_S_feed_17 ?_
  refine r_iload_n 3 d_S_feed_20 rfl rfl ?_
  refine r_iadd d_S_feed_21 ?_
  refine r_sipush (200) d_S_feed_22 (by decide) ?_
  refine r_icmp_le d_S_feed_25 (fun h25 => absurd h25 (by rw [hct, nI_add]; exact nI_ge hf (by omega))) (fun h25 => ?_)
  refine r_bipush (-2) d_S_feed_28 (by decide) ?_
  refine r_iret .int d_S_feed_30 rfl rfl ?_
  exact ⟨rfl, rfl⟩
set_option maxHeartbeats 400000 in
theorem c_S_feed {n t : Nat} (e : Int64) (hP : 1 ≤ n ∧ n ≤ 8) (hf : t + n ≤ 200) (μ : Me) (hct : μ.1 47 1 = nI t) : CtI m_S_feed 1 [.ref 0, .long e, .int (nI n)] μ (nI (t + n)) (uI (rI μ 48 (tapF e t (μ.1 48) n)) 47 1 (nI (t + n))) := by
  refine Ct.of (ls := [.ref 0, .long e, flr, .int (nI n), flr]) rfl (Nat.le_of_ble_eq_true rfl) rfl (fun X => ?_)
  refine r_iload_n 3 d_S_feed_0 rfl rfl ?_
  refine r_iconst 1 d_S_feed_1 rfl ?_
  refine r_icmp_lt d_S_feed_2 (fun h2 => absurd h2 (nI_nlt (a := n) (b := 1) hP.1 (by omega))) (fun h2 => ?_)
  refine r_iload_n 3 d_S_feed_5 rfl rfl ?_
  refine r_bipush (8) d_S_feed_6 (by decide) ?_
  refine r_icmp_le d_S_feed_8 (fun h8 => ?_) (fun h8 => absurd (nI_le hP.2 (by decide)) h8)
  refine r_aload_n 0 d_S_feed_13 rfl rfl ?_
  refine r_getR fl_S_26 (by first | with_reducible assumption | rfl) rfl d_S_feed_14 ?_
  refine r_getI fl_S_93 (by first | with_reducible assumption | rfl) rfl d_S_feed_17 ?_
  refine r_iload_n 3 d_S_feed_20 rfl rfl ?_
  refine r_iadd d_S_feed_21 ?_
  refine r_sipush (200) d_S_feed_22 (by decide) ?_
  refine r_icmp_le d_S_feed_25 (fun h25 => ?_) (fun h25 => absurd (by rw [hct, nI_add]; exact nI_le hf (by decide)) h25)
  refine r_iconst 0 d_S_feed_31 rfl ?_
  refine r_istore 4 [_, _, _, _, _] d_S_feed_32 (by decide) rfl ?_
  refine lpN n (fun i (μ1 : Me) => Wa X m_S_feed 1 34 [.ref 0, .long e, flr, .int (nI n), .int (nI i)] [] μ1 _) (fun i μ1 => μ1 = uI (rI μ 48 (tapF e t (μ.1 48) i)) 47 1 (nI (t + i))) ?_ 0 _ (Nat.zero_le _) ?_
  · intro i μ1 hi hw hk
    subst hw
    refine r_iload 4 d_S_feed_34 rfl ?_
    refine r_iload_n 3 d_S_feed_36 rfl rfl ?_
    refine r_icmp_ge d_S_feed_37 (fun h37 => ?_) (fun h37 => ?_)
    · have hge := n_le h37 rfl rfl (by omega) (by omega)
      obtain rfl : i = n := by omega
      refine r_aload_n 0 d_S_feed_62 rfl rfl ?_
      refine r_getR fl_S_26 (by first | with_reducible assumption | rfl) rfl d_S_feed_63 ?_
      refine r_getI fl_S_93 (by first | with_reducible assumption | rfl) rfl d_S_feed_66 ?_
      refine r_iret .int d_S_feed_69 rfl rfl ?_
      exact ⟨by rw [uI_at], rfl⟩
    · have hl : i < n := n_lt h37 rfl rfl (by omega) (by omega)
      refine r_aload_n 0 d_S_feed_40 rfl rfl ?_
      refine r_getR fl_S_26 (by first | with_reducible assumption | rfl) rfl d_S_feed_41 ?_
      refine r_lload_n 1 d_S_feed_44 rfl rfl ?_
      refine r_bipush (8) d_S_feed_45 (by decide) ?_
      refine r_iload 4 d_S_feed_47 rfl ?_
      refine r_imul d_S_feed_49 ?_
      refine r_lushr d_S_feed_50 ?_
      refine r_l2i d_S_feed_51 ?_
      refine r_i2b d_S_feed_52 ?_
      refine r_callVv (c_Text_append (n := t + i) (by omega) _ _ (by rw [uI_at])) lk_S_97 (by first | with_reducible assumption | rfl) d_S_feed_53 rfl rfl (Nat.le_of_ble_eq_true rfl) (by decide) ?_
      first | refine r_iincN 4 [_, _, _, _, _] d_S_feed_56 (by decide) rfl rfl ?_ | refine r_iinc 4 [_, _, _, _, _] (1) d_S_feed_56 (by decide) (by decide) rfl rfl ?_
      refine r_goto d_S_feed_59 ?_
      refine hk _ hl ?_
      rw [tapF, show t + (i + 1) = t + i + 1 from rfl]
      refine Me_ext (fun c' j' => ?_) (fun _ _ => rfl)
      by_cases h1 : c' = 47
      · subst h1
        by_cases h2 : j' = 1
        · subst h2; rw [uI_at, uI_at]
        · rw [uI_off h2, uI_off h2, uI_ne (by decide), uI_off h2, rI_ne (by decide), rI_ne (by decide)]
      · rw [uI_ne h1, uI_ne h1]
        by_cases h3 : c' = 48
        · subst h3
          rw [uI_eq, uI_ne (by decide), rI_eq, rI_eq]
          rfl
        · rw [uI_ne h3, uI_ne h1, rI_ne h3, rI_ne h3]
  · rw [tapF, rI_self, Nat.add_zero, ← hct]
    refine Me_ext (fun c' j' => ?_) (fun _ _ => rfl)
    by_cases h1 : c' = 47
    · subst h1
      by_cases h2 : j' = 1
      · subst h2; rw [uI_at]
      · rw [uI_off h2]
    · rw [uI_ne h1]
