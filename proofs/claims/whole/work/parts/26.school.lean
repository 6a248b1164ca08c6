/-! LESSONS, ROWS, the School: its LEARNERS are the cells 8, 12, 16, 20 -/
theorem isL_s : ∀ i, i < 4 → isL (8 + 4 * i) := by
  intro i hi
  rcases (show i = 0 ∨ i = 1 ∨ i = 2 ∨ i = 3 by omega) with rfl | rfl | rfl | rfl <;> exact ⟨by decide, rfl, rfl, rfl, rfl⟩
theorem isL_k : ∀ i, i < 4 → isL (31 + 4 * i) := by
  intro i hi
  rcases (show i = 0 ∨ i = 1 ∨ i = 2 ∨ i = 3 by omega) with rfl | rfl | rfl | rfl <;> exact ⟨by decide, rfl, rfl, rfl, rfl⟩
theorem isL_53 : isL 53 := ⟨by decide, rfl, rfl, rfl, rfl⟩
set_option maxHeartbeats 400000 in
theorem c_School_learnerAt_yes (j m : Nat) (hj : j < m) (hm : m ≤ 4) (μ : Me) (hct : μ.1 1 1 = nI m) : CtA m_School_learnerAt 0 [.ref 1, .int (nI j)] μ (.ref (8 + 4 * j)) μ := by
  refine Ct.of (ls := [.ref 1, .int (nI j)]) rfl (Nat.le_of_ble_eq_true rfl) rfl (fun X => ?_)
  refine r_iload_n 1 d_School_learnerAt_0 rfl rfl ?_
  refine r_if_lt d_School_learnerAt_1 (fun h1 => absurd h1 (nI_pos (by omega))) (fun h1 => ?_)
  refine r_iload_n 1 d_School_learnerAt_4 rfl rfl ?_
  refine r_aload_n 0 d_School_learnerAt_5 rfl rfl ?_
  refine r_getI fl_School_17 (by first | with_reducible assumption | rfl) rfl d_School_learnerAt_6 ?_
  refine r_icmp_lt d_School_learnerAt_9 (fun h9 => ?_) (fun h9 => absurd (by rw [hct]; exact nI_lt hj (by omega)) h9)
  refine r_aload_n 0 d_School_learnerAt_16 rfl rfl ?_
  refine r_getR fl_School_11 (by first | with_reducible assumption | rfl) rfl d_School_learnerAt_17 ?_
  refine r_iload_n 1 d_School_learnerAt_20 rfl rfl ?_
  refine r_aald3N (by first | with_reducible assumption | rfl) (by decide) (by first | with_reducible assumption | omega | decide | assumption) d_School_learnerAt_21 ?_
  refine r_aret _ d_School_learnerAt_22 rfl ?_
  exact ⟨rfl, rfl⟩
set_option maxHeartbeats 400000 in
theorem c_School_learnerAt_no (n : Int32) (μ : Me) (hct : n < 0 ∨ μ.1 1 1 ≤ n) : CtA m_School_learnerAt 0 [.ref 1, .int n] μ .null μ := by
  refine Ct.of (ls := [.ref 1, .int n]) rfl (Nat.le_of_ble_eq_true rfl) rfl (fun X => ?_)
  refine r_iload_n 1 d_School_learnerAt_0 rfl rfl ?_
  refine r_if_lt d_School_learnerAt_1 (fun h1 => ?_) (fun h1 => ?_)
  · refine r_null d_School_learnerAt_12 ?_
    refine r_goto d_School_learnerAt_13 ?_
    refine r_aretN _ d_School_learnerAt_22 rfl ?_
    exact ⟨rfl, rfl⟩
  · refine r_iload_n 1 d_School_learnerAt_4 rfl rfl ?_
    refine r_aload_n 0 d_School_learnerAt_5 rfl rfl ?_
    refine r_getI fl_School_17 (by first | with_reducible assumption | rfl) rfl d_School_learnerAt_6 ?_
    refine r_icmp_lt d_School_learnerAt_9 (fun h9 => absurd h9 (by rcases hct with z | z; exact absurd z h1; exact Int32.not_lt.mpr z)) (fun h9 => ?_)
    refine r_null d_School_learnerAt_12 ?_
    refine r_goto d_School_learnerAt_13 ?_
    refine r_aretN _ d_School_learnerAt_22 rfl ?_
    exact ⟨rfl, rfl⟩
/-- a LESSON: the cell c, and behind it sorts, what they are about, SECONDS; how many: slot 3 -/
def isLs (c : Nat) : Prop := shp[c]? = some (.inl (3, [c + 3, c + 4, c + 5, 0])) ∧ shp[c + 1]? = some (.inr (0, 12, 0, 0)) ∧ shp[c + 2]? = some (.inr (0, 12, 0, 0)) ∧ shp[c + 3]? = some (.inr (0, 12, 0, 0))
theorem isLs_4 : isLs 4 := ⟨rfl, rfl, rfl, rfl⟩
theorem isLs_27 : isLs 27 := ⟨rfl, rfl, rfl, rfl⟩
theorem isLs_49 : isLs 49 := ⟨rfl, rfl, rfl, rfl⟩
set_option maxHeartbeats 400000 in
theorem c_Lesson_append {c m : Nat} (hc : isLs c) (hm : m ≤ 12) (a b e : Int32) (μ : Me) (hc3 : μ.1 c 3 = nI m) : CtV m_Lesson_append 0 [.ref c, .int a, .int b, .int e] μ (if m < 12 then uI (uI (uI (uI μ (c + 1) m a) (c + 2) m b) (c + 3) m e) c 3 (nI (m + 1)) else μ) := by
  refine Ct.of (ls := [.ref c, .int a, .int b, .int e]) rfl (Nat.le_of_ble_eq_true rfl) rfl (fun X => ?_)
  obtain ⟨s0, s1, s2, s3⟩ := hc
  refine r_aload_n 0 d_Lesson_append_0 rfl rfl ?_
  refine r_getI fl_Lesson_21 (by first | with_reducible assumption | rfl) rfl d_Lesson_append_1 ?_
  refine r_bipush (12) d_Lesson_append_4 (by decide) ?_
  refine r_icmp_lt d_Lesson_append_6 (fun h6 => ?_) (fun h6 => ?_)
  · have hl : m < 12 := (nI_ltI (by omega) (by decide)).mp (by rw [← hc3]; exact h6)
    have e1 : ∀ (j : Nat) (v : Int32), (uI μ (c + 1) j v).1 c 3 = nI m := fun j v => by rw [uI_ne (by omega), hc3]
    have e2 : ∀ (j k : Nat) (v w : Int32), (uI (uI μ (c + 1) j v) (c + 2) k w).1 c 3 = nI m := fun j k v w => by rw [uI_ne (by omega), e1]
    have e3 : ∀ (j k i : Nat) (v w u : Int32), (uI (uI (uI μ (c + 1) j v) (c + 2) k w) (c + 3) i u).1 c 3 = nI m := fun j k i v w u => by rw [uI_ne (by omega), e2]
    refine r_aload_n 0 d_Lesson_append_10 rfl rfl ?_
    refine r_getR fl_Lesson_9 (by first | with_reducible assumption | rfl) rfl d_Lesson_append_11 ?_
    refine r_aload_n 0 d_Lesson_append_14 rfl rfl ?_
    refine r_getI fl_Lesson_21 (by first | with_reducible assumption | rfl) rfl d_Lesson_append_15 ?_
    rw [hc3]
    refine r_iload_n 1 d_Lesson_append_18 rfl rfl ?_
    refine r_iastN (by first | with_reducible assumption | rfl) (by first | with_reducible assumption | omega | decide | assumption) d_Lesson_append_19 ?_
    refine r_aload_n 0 d_Lesson_append_20 rfl rfl ?_
    refine r_getR fl_Lesson_15 (by first | with_reducible assumption | rfl) rfl d_Lesson_append_21 ?_
    refine r_aload_n 0 d_Lesson_append_24 rfl rfl ?_
    refine r_getI fl_Lesson_21 (by first | with_reducible assumption | rfl) rfl d_Lesson_append_25 ?_
    rw [e1]
    refine r_iload_n 2 d_Lesson_append_28 rfl rfl ?_
    refine r_iastN (by first | with_reducible assumption | rfl) (by first | with_reducible assumption | omega | decide | assumption) d_Lesson_append_29 ?_
    refine r_aload_n 0 d_Lesson_append_30 rfl rfl ?_
    refine r_getR fl_Lesson_18 (by first | with_reducible assumption | rfl) rfl d_Lesson_append_31 ?_
    refine r_aload_n 0 d_Lesson_append_34 rfl rfl ?_
    refine r_getI fl_Lesson_21 (by first | with_reducible assumption | rfl) rfl d_Lesson_append_35 ?_
    rw [e2]
    refine r_iload_n 3 d_Lesson_append_38 rfl rfl ?_
    refine r_iastN (by first | with_reducible assumption | rfl) (by first | with_reducible assumption | omega | decide | assumption) d_Lesson_append_39 ?_
    refine r_aload_n 0 d_Lesson_append_40 rfl rfl ?_
    refine r_dup d_Lesson_append_41 rfl ?_
    refine r_getI fl_Lesson_21 (by first | with_reducible assumption | rfl) rfl d_Lesson_append_42 ?_
    rw [e3]
    refine r_iconst 1 d_Lesson_append_45 rfl ?_
    refine r_iadd d_Lesson_append_46 ?_
    refine r_putI fp_Lesson_21 (by first | with_reducible assumption | rfl) rfl d_Lesson_append_47 ?_
    refine r_ret d_Lesson_append_50 rfl ?_
    rw [if_pos hl, nI_succ]
    exact ⟨rfl, rfl⟩
  · refine r_ret d_Lesson_append_9 rfl ?_
    have hl : ¬ m < 12 := fun z => h6 (by rw [hc3]; exact nI_lt z (by decide))
    exact ⟨rfl, (if_neg hl).symm⟩
set_option maxHeartbeats 400000 in
theorem c_Lesson_copyFrom {c c' : Nat} (hc : isLs c) (hc' : isLs c') (hd : c + 4 ≤ c' ∨ c' + 4 ≤ c) (μ : Me) : CtV m_Lesson_copyFrom 1 [.ref c, .ref c'] μ (uI (r3 μ c (cut 12 (μ.1 (c' + 1)) (μ.1 (c + 1))) (cut 12 (μ.1 (c' + 2)) (μ.1 (c + 2))) (cut 12 (μ.1 (c' + 3)) (μ.1 (c + 3)))) c 3 (μ.1 c' 3)) := by
  refine Ct.of (ls := [.ref c, .ref c']) rfl (Nat.le_of_ble_eq_true rfl) rfl (fun X => ?_)
  obtain ⟨s0, s1, s2, s3⟩ := hc
  obtain ⟨t0, t1, t2, t3⟩ := hc'
  have n0 : c' ≠ c + 1 := by omega
  have n1 : c' ≠ c + 2 := by omega
  have n2 : c' ≠ c + 3 := by omega
  have n3 : c' + 2 ≠ c + 1 := by omega
  have n5 : c' + 3 ≠ c + 1 := by omega
  have n6 : c' + 3 ≠ c + 2 := by omega
  refine r_aload_n 1 d_Lesson_copyFrom_0 rfl rfl ?_
  refine r_getR fl_Lesson_9 (by first | with_reducible assumption | rfl) rfl d_Lesson_copyFrom_1 ?_
  refine r_iconst 0 d_Lesson_copyFrom_4 rfl ?_
  refine r_aload_n 0 d_Lesson_copyFrom_5 rfl rfl ?_
  refine r_getR fl_Lesson_9 (by first | with_reducible assumption | rfl) rfl d_Lesson_copyFrom_6 ?_
  refine r_iconst 0 d_Lesson_copyFrom_9 rfl ?_
  refine r_bipush (12) d_Lesson_copyFrom_10 (by decide) ?_
  refine r_copy ac_Lesson_25 (by first | with_reducible assumption | rfl) (by first | with_reducible assumption | rfl) (by decide) (by decide) (by decide) d_Lesson_copyFrom_12 (Nat.le_of_ble_eq_true rfl) (by decide) ?_
  refine r_aload_n 1 d_Lesson_copyFrom_15 rfl rfl ?_
  refine r_getR fl_Lesson_15 (by first | with_reducible assumption | rfl) rfl d_Lesson_copyFrom_16 ?_
  refine r_iconst 0 d_Lesson_copyFrom_19 rfl ?_
  refine r_aload_n 0 d_Lesson_copyFrom_20 rfl rfl ?_
  refine r_getR fl_Lesson_15 (by first | with_reducible assumption | rfl) rfl d_Lesson_copyFrom_21 ?_
  refine r_iconst 0 d_Lesson_copyFrom_24 rfl ?_
  refine r_bipush (12) d_Lesson_copyFrom_25 (by decide) ?_
  refine r_copy ac_Lesson_25 (by first | with_reducible assumption | rfl) (by first | with_reducible assumption | rfl) (by decide) (by decide) (by decide) d_Lesson_copyFrom_27 (Nat.le_of_ble_eq_true rfl) (by decide) ?_
  refine r_aload_n 1 d_Lesson_copyFrom_30 rfl rfl ?_
  refine r_getR fl_Lesson_18 (by first | with_reducible assumption | rfl) rfl d_Lesson_copyFrom_31 ?_
  refine r_iconst 0 d_Lesson_copyFrom_34 rfl ?_
  refine r_aload_n 0 d_Lesson_copyFrom_35 rfl rfl ?_
  refine r_getR fl_Lesson_18 (by first | with_reducible assumption | rfl) rfl d_Lesson_copyFrom_36 ?_
  refine r_iconst 0 d_Lesson_copyFrom_39 rfl ?_
  refine r_bipush (12) d_Lesson_copyFrom_40 (by decide) ?_
  refine r_copy ac_Lesson_25 (by first | with_reducible assumption | rfl) (by first | with_reducible assumption | rfl) (by decide) (by decide) (by decide) d_Lesson_copyFrom_42 (Nat.le_of_ble_eq_true rfl) (by decide) ?_
  refine r_aload_n 0 d_Lesson_copyFrom_45 rfl rfl ?_
  refine r_aload_n 1 d_Lesson_copyFrom_46 rfl rfl ?_
  refine r_getI fl_Lesson_21 (by first | with_reducible assumption | rfl) rfl d_Lesson_copyFrom_47 ?_
  refine r_putI fp_Lesson_21 (by first | with_reducible assumption | rfl) rfl d_Lesson_copyFrom_50 ?_
  refine r_ret d_Lesson_copyFrom_53 rfl ?_
  refine ⟨rfl, ?_⟩
  simp only [cpy_cut]
  have e : (Int32.toNatClampNeg 12) = 12 := by decide
  simp [r3, uI, rI, n0, n1, n2, n3, n5, n6, e]
set_option maxHeartbeats 400000 in
theorem c_School_admit {m : Nat} (hm : m < 4) (k a : Int32) (μ : Me) (hct : μ.1 1 1 = nI m) : CtI m_School_admit 2 [.ref 1, .int k, .int a] μ (nI m) (uI (r3 (uI (uI μ (8 + 4 * m) 0 k) (8 + 4 * m) 1 a) (8 + 4 * m) (cut 36 firstS (μ.1 (8 + 4 * m + 1))) (cut 36 (fun _ => 0) (μ.1 (8 + 4 * m + 2))) (cut 36 (fun _ => -9) (μ.1 (8 + 4 * m + 3)))) 1 1 (nI (m + 1))) := by
  refine Ct.of (ls := [.ref 1, .int k, .int a, flr]) rfl (Nat.le_of_ble_eq_true rfl) rfl (fun X => ?_)
  obtain ⟨s9, s0, s1, s2, s3⟩ := isL_s m hm
  refine r_aload_n 0 d_School_admit_0 rfl rfl ?_
  refine r_getI fl_School_17 (by first | with_reducible assumption | rfl) rfl d_School_admit_1 ?_
  rw [hct]
  refine r_istore_n 3 [_, _, _, _] d_School_admit_4 rfl (by decide) rfl ?_
  refine r_aload_n 0 d_School_admit_5 rfl rfl ?_
  refine r_getR fl_School_11 (by first | with_reducible assumption | rfl) rfl d_School_admit_6 ?_
  refine r_iload_n 3 d_School_admit_9 rfl rfl ?_
  refine r_aald3N (by first | with_reducible assumption | rfl) (by decide) (by first | with_reducible assumption | omega | decide | assumption) d_School_admit_10 ?_
  refine r_iload_n 1 d_School_admit_11 rfl rfl ?_
  refine r_iload_n 2 d_School_admit_12 rfl rfl ?_
  refine r_callVv (c_Learner_start (isL_s m hm) _ _ _) lk_School_39 (by first | with_reducible assumption | rfl) d_School_admit_13 rfl rfl (Nat.le_of_ble_eq_true rfl) (by decide) ?_
  refine r_aload_n 0 d_School_admit_16 rfl rfl ?_
  refine r_dup d_School_admit_17 rfl ?_
  refine r_getI fl_School_17 (by first | with_reducible assumption | rfl) rfl d_School_admit_18 ?_
  refine r_iconst 1 d_School_admit_21 rfl ?_
  refine r_iadd d_School_admit_22 ?_
  refine r_putI fp_School_17 (by first | with_reducible assumption | rfl) rfl d_School_admit_23 ?_
  refine r_iload_n 3 d_School_admit_26 rfl rfl ?_
  refine r_iret .int d_School_admit_27 rfl rfl ?_
  refine ⟨rfl, ?_⟩
  rw [r3_ne (by omega) (by omega) (by omega), uI_ne (by omega), uI_ne (by omega), hct, nI_succ]
/-- nights for the first i LEARNERS -/
def restM (g : Int32) (n : Nat) (μ : Me) : Nat → Me
  | 0 => μ
  | i + 1 => rI (restM g n μ i) (8 + 4 * i + 1) (sleepF g n (μ.1 (8 + 4 * i + 1)) (μ.1 (8 + 4 * i + 2)))
theorem restM_ne (g : Int32) (n : Nat) (μ : Me) : ∀ (i c : Nat), (∀ j, j < i → c ≠ 8 + 4 * j + 1) → (restM g n μ i).1 c = μ.1 c
  | 0, c, _ => rfl
  | i + 1, c, h => by rw [restM, rI_ne (h i (by omega)), restM_ne g n μ i c (fun j hj => h j (by omega))]
set_option maxHeartbeats 400000 in
theorem c_School_rest {m : Nat} (hm : m ≤ 4) (n : Nat) (hn : n < 2 ^ 31) (μ : Me) (hct : μ.1 1 1 = nI m) (hr : ∀ i, i < m → ∀ p, p < 36 → ¬ (100 * (μ.1 (8 + 4 * i + 2) p + 1) = 0)) : CtV m_School_rest 2 [.ref 1, .int (nI n)] μ (uI (restM (μ.1 3 0) n μ m) 1 3 (μ.1 1 3 + nI n)) := by
  refine Ct.of (ls := [.ref 1, .int (nI n), flr]) rfl (Nat.le_of_ble_eq_true rfl) rfl (fun X => ?_)
  have e1 : ∀ i, (restM (μ.1 3 0) n μ i).1 1 = μ.1 1 := fun i => restM_ne _ _ _ _ _ (fun j _ => by omega)
  have e3 : ∀ i, (restM (μ.1 3 0) n μ i).1 3 = μ.1 3 := fun i => restM_ne _ _ _ _ _ (fun j _ => by omega)
  refine r_iconst 0 d_School_rest_0 rfl ?_
  refine r_istore_n 2 [_, _, _] d_School_rest_1 rfl (by decide) rfl ?_
  refine lpN m (fun i (μ1 : Me) => Wa X m_School_rest 2 2 [.ref 1, .int (nI n), .int (nI i)] [] μ1 _) (fun i μ1 => μ1 = restM (μ.1 3 0) n μ i) ?_ 0 μ (Nat.zero_le _) rfl
  intro i μ1 hi hw hk
  subst hw
  refine r_iload_n 2 d_School_rest_2 rfl rfl ?_
  refine r_aload_n 0 d_School_rest_3 rfl rfl ?_
  refine r_getI fl_School_17 (by first | with_reducible assumption | rfl) rfl d_School_rest_4 ?_
  refine r_icmp_ge d_School_rest_7 (fun h7 => ?_) (fun h7 => ?_)
  · have hge := n_le h7 (by rw [e1, hct]) rfl (by omega) (by omega)
    obtain rfl : i = m := by omega
    refine r_aload_n 0 d_School_rest_32 rfl rfl ?_
    refine r_dup d_School_rest_33 rfl ?_
    refine r_getI fl_School_25 (by first | with_reducible assumption | rfl) rfl d_School_rest_34 ?_
    refine r_iload_n 1 d_School_rest_37 rfl rfl ?_
    refine r_iadd d_School_rest_38 ?_
    refine r_putI fp_School_25 (by first | with_reducible assumption | rfl) rfl d_School_rest_39 ?_
    refine r_ret d_School_rest_42 rfl ?_
    rw [e1]
    exact ⟨rfl, rfl⟩
  · have hl : i < m := n_lt h7 (by rw [e1, hct]) rfl (by omega) (by omega)
    have hl4 : i < 4 := by omega
    obtain ⟨s9, s0, s1, s2, s3⟩ := isL_s i hl4
    have f1 : (restM (μ.1 3 0) n μ i).1 (8 + 4 * i + 1) = μ.1 (8 + 4 * i + 1) := restM_ne _ _ _ _ _ (fun j _ => by omega)
    have f2 : (restM (μ.1 3 0) n μ i).1 (8 + 4 * i + 2) = μ.1 (8 + 4 * i + 2) := restM_ne _ _ _ _ _ (fun j _ => by omega)
    refine r_aload_n 0 d_School_rest_10 rfl rfl ?_
    refine r_getR fl_School_11 (by first | with_reducible assumption | rfl) rfl d_School_rest_11 ?_
    refine r_iload_n 2 d_School_rest_14 rfl rfl ?_
    refine r_aald3N (by first | with_reducible assumption | rfl) (by decide) (by first | with_reducible assumption | omega | decide | assumption) d_School_rest_15 ?_
    refine r_iload_n 1 d_School_rest_16 rfl rfl ?_
    refine r_aload_n 0 d_School_rest_17 rfl rfl ?_
    refine r_getR fl_School_21 (by first | with_reducible assumption | rfl) rfl d_School_rest_18 ?_
    skip
    refine r_iconst 0 d_School_rest_21 rfl ?_
    show Wa X _ _ _ _ (.int (nI 0) :: _) _ _
    refine r_ialdN (j := 0) (by first | with_reducible assumption | rfl) (by first | with_reducible assumption | omega | decide | assumption) d_School_rest_22 ?_
    refine r_callVv (c_Learner_sleep (isL_s i hl4) n hn _ _ (by rw [f2]; exact hr i hl)) lk_School_43 (by first | with_reducible assumption | rfl) d_School_rest_23 rfl rfl (Nat.le_of_ble_eq_true rfl) (by decide) ?_
    first | refine r_iincN 2 [_, _, _] d_School_rest_26 (by decide) rfl rfl ?_ | refine r_iinc 2 [_, _, _] (1) d_School_rest_26 (by decide) (by decide) rfl rfl ?_
    refine r_goto d_School_rest_29 ?_
    refine hk _ hl ?_
    rw [restM, e3, f1, f2]
