/-! the reference's row: from place A on, a LEARNER l's KIND, a, and three numbers for each PAIR -/
def kM (g : Nat → Int32) (A l : Nat) : Int32 := g (A + 2 + 110 * l)
def aM (g : Nat → Int32) (A l : Nat) : Int32 := g (A + 2 + 110 * l + 1)
def fM (g : Nat → Int32) (A l p : Nat) : Int32 := g (A + 4 + 110 * l + 3 * p)
def rM (g : Nat → Int32) (A l p : Nat) : Int32 := g (A + 4 + 110 * l + 3 * p + 1)
def lM (g : Nat → Int32) (A l p : Nat) : Int32 := g (A + 4 + 110 * l + 3 * p + 2)
theorem mul110 (m : Nat) : (110 : Int32) * nI m = nI (110 * m) := pk_mul 110 m
theorem two_add (m : Nat) : (2 : Int32) + nI m = nI (2 + m) := nI_add 2 m
theorem place_e (A l p : Nat) : nI A + 2 + 110 * nI l + 2 + 3 * nI p = nI (A + 4 + 110 * l + 3 * p) := by
  rw [add2, mul110, nI_add, add2, mul3, nI_add]
  congr 1
  omega
set_option maxHeartbeats 400000 in
theorem c_M_place {A l p : Nat} (μ : Me) (hat : μ.1 82 1 = nI A) : CtI m_M_place 0 [.ref 82, .int (nI l), .int (nI p)] μ (nI (A + 4 + 110 * l + 3 * p)) μ := by
  refine Ct.of (ls := [.ref 82, .int (nI l), .int (nI p)]) rfl (Nat.le_of_ble_eq_true rfl) rfl (fun X => ?_)
  refine r_aload_n 0 d_M_place_0 rfl rfl ?_
  refine r_getI fl_M_106 (by first | with_reducible assumption | rfl) rfl d_M_place_1 ?_
  refine r_iconst 2 d_M_place_4 rfl ?_
  refine r_iadd d_M_place_5 ?_
  refine r_bipush (110) d_M_place_6 (by decide) ?_
  refine r_iload_n 1 d_M_place_8 rfl rfl ?_
  refine r_imul d_M_place_9 ?_
  refine r_iadd d_M_place_10 ?_
  refine r_iconst 2 d_M_place_11 rfl ?_
  refine r_iadd d_M_place_12 ?_
  refine r_iconst 3 d_M_place_13 rfl ?_
  refine r_iload_n 2 d_M_place_14 rfl rfl ?_
  refine r_imul d_M_place_15 ?_
  refine r_iadd d_M_place_16 ?_
  refine r_iret .int d_M_place_17 rfl rfl ?_
  exact ⟨by rw [hat, place_e], rfl⟩
set_option maxHeartbeats 400000 in
theorem c_M_firmOf {A l p : Nat} (hA : A ≤ 442) (hl : l < 4) (hp : p < 36) (μ : Me) (hat : μ.1 82 1 = nI A) : CtI m_M_firmOf 1 [.ref 82, .int (nI l), .int (nI p)] μ (fM (μ.1 83) A l p) μ := by
  refine Ct.of (ls := [.ref 82, .int (nI l), .int (nI p)]) rfl (Nat.le_of_ble_eq_true rfl) rfl (fun X => ?_)
  refine r_aload_n 0 d_M_firmOf_0 rfl rfl ?_
  refine r_getR fl_M_7 (by first | with_reducible assumption | rfl) rfl d_M_firmOf_1 ?_
  refine r_aload_n 0 d_M_firmOf_4 rfl rfl ?_
  refine r_iload_n 1 d_M_firmOf_5 rfl rfl ?_
  refine r_iload_n 2 d_M_firmOf_6 rfl rfl ?_
  refine r_callVi (c_M_place _ hat) lk_M_109 (by first | with_reducible assumption | rfl) d_M_firmOf_7 rfl rfl (Nat.le_of_ble_eq_true rfl) (by decide) ?_
  refine r_ialdN (by first | with_reducible assumption | rfl) (by first | with_reducible assumption | omega | decide | assumption) d_M_firmOf_10 ?_
  refine r_iret .int d_M_firmOf_11 rfl rfl ?_
  exact ⟨rfl, rfl⟩
set_option maxHeartbeats 400000 in
theorem c_M_rightsOf {A l p : Nat} (hA : A ≤ 442) (hl : l < 4) (hp : p < 36) (μ : Me) (hat : μ.1 82 1 = nI A) : CtI m_M_rightsOf 1 [.ref 82, .int (nI l), .int (nI p)] μ (rM (μ.1 83) A l p) μ := by
  refine Ct.of (ls := [.ref 82, .int (nI l), .int (nI p)]) rfl (Nat.le_of_ble_eq_true rfl) rfl (fun X => ?_)
  refine r_aload_n 0 d_M_rightsOf_0 rfl rfl ?_
  refine r_getR fl_M_7 (by first | with_reducible assumption | rfl) rfl d_M_rightsOf_1 ?_
  refine r_aload_n 0 d_M_rightsOf_4 rfl rfl ?_
  refine r_iload_n 1 d_M_rightsOf_5 rfl rfl ?_
  refine r_iload_n 2 d_M_rightsOf_6 rfl rfl ?_
  refine r_callVi (c_M_place _ hat) lk_M_109 (by first | with_reducible assumption | rfl) d_M_rightsOf_7 rfl rfl (Nat.le_of_ble_eq_true rfl) (by decide) ?_
  refine r_iconst 1 d_M_rightsOf_10 rfl ?_
  refine r_iadd d_M_rightsOf_11 ?_
  rw [← nI_succ]
  refine r_ialdN (by first | with_reducible assumption | rfl) (show A + 4 + 110 * l + 3 * p + 1 < 884 by omega) d_M_rightsOf_12 ?_
  refine r_iret .int d_M_rightsOf_13 rfl rfl ?_
  exact ⟨rfl, rfl⟩
set_option maxHeartbeats 400000 in
theorem c_M_latestOf {A l p : Nat} (hA : A ≤ 442) (hl : l < 4) (hp : p < 36) (μ : Me) (hat : μ.1 82 1 = nI A) : CtI m_M_latestOf 1 [.ref 82, .int (nI l), .int (nI p)] μ (lM (μ.1 83) A l p) μ := by
  refine Ct.of (ls := [.ref 82, .int (nI l), .int (nI p)]) rfl (Nat.le_of_ble_eq_true rfl) rfl (fun X => ?_)
  refine r_aload_n 0 d_M_latestOf_0 rfl rfl ?_
  refine r_getR fl_M_7 (by first | with_reducible assumption | rfl) rfl d_M_latestOf_1 ?_
  refine r_aload_n 0 d_M_latestOf_4 rfl rfl ?_
  refine r_iload_n 1 d_M_latestOf_5 rfl rfl ?_
  refine r_iload_n 2 d_M_latestOf_6 rfl rfl ?_
  refine r_callVi (c_M_place _ hat) lk_M_109 (by first | with_reducible assumption | rfl) d_M_latestOf_7 rfl rfl (Nat.le_of_ble_eq_true rfl) (by decide) ?_
  refine r_iconst 2 d_M_latestOf_10 rfl ?_
  refine r_iadd d_M_latestOf_11 ?_
  rw [add2]
  refine r_ialdN (by first | with_reducible assumption | rfl) (show A + 4 + 110 * l + 3 * p + 2 < 884 by omega) d_M_latestOf_12 ?_
  refine r_iret .int d_M_latestOf_13 rfl rfl ?_
  exact ⟨rfl, rfl⟩
set_option maxHeartbeats 400000 in
theorem c_M_kindOf {A l : Nat} (hA : A ≤ 442) (hl : l < 4) (μ : Me) (hat : μ.1 82 1 = nI A) : CtI m_M_kindOf 0 [.ref 82, .int (nI l)] μ (kM (μ.1 83) A l) μ := by
  refine Ct.of (ls := [.ref 82, .int (nI l)]) rfl (Nat.le_of_ble_eq_true rfl) rfl (fun X => ?_)
  refine r_aload_n 0 d_M_kindOf_0 rfl rfl ?_
  refine r_getR fl_M_7 (by first | with_reducible assumption | rfl) rfl d_M_kindOf_1 ?_
  refine r_aload_n 0 d_M_kindOf_4 rfl rfl ?_
  refine r_getI fl_M_106 (by first | with_reducible assumption | rfl) rfl d_M_kindOf_5 ?_
  refine r_iconst 2 d_M_kindOf_8 rfl ?_
  refine r_iadd d_M_kindOf_9 ?_
  refine r_bipush (110) d_M_kindOf_10 (by decide) ?_
  refine r_iload_n 1 d_M_kindOf_12 rfl rfl ?_
  refine r_imul d_M_kindOf_13 ?_
  refine r_iadd d_M_kindOf_14 ?_
  rw [hat, add2, mul110, nI_add]
  refine r_ialdN (by first | with_reducible assumption | rfl) (by first | with_reducible assumption | omega | decide | assumption) d_M_kindOf_15 ?_
  refine r_iret .int d_M_kindOf_16 rfl rfl ?_
  exact ⟨rfl, rfl⟩
set_option maxHeartbeats 400000 in
theorem c_M_aOf {A l : Nat} (hA : A ≤ 442) (hl : l < 4) (μ : Me) (hat : μ.1 82 1 = nI A) : CtI m_M_aOf 0 [.ref 82, .int (nI l)] μ (aM (μ.1 83) A l) μ := by
  refine Ct.of (ls := [.ref 82, .int (nI l)]) rfl (Nat.le_of_ble_eq_true rfl) rfl (fun X => ?_)
  refine r_aload_n 0 d_M_aOf_0 rfl rfl ?_
  refine r_getR fl_M_7 (by first | with_reducible assumption | rfl) rfl d_M_aOf_1 ?_
  refine r_aload_n 0 d_M_aOf_4 rfl rfl ?_
  refine r_getI fl_M_106 (by first | with_reducible assumption | rfl) rfl d_M_aOf_5 ?_
  refine r_iconst 2 d_M_aOf_8 rfl ?_
  refine r_iadd d_M_aOf_9 ?_
  refine r_bipush (110) d_M_aOf_10 (by decide) ?_
  refine r_iload_n 1 d_M_aOf_12 rfl rfl ?_
  refine r_imul d_M_aOf_13 ?_
  refine r_iadd d_M_aOf_14 ?_
  refine r_iconst 1 d_M_aOf_15 rfl ?_
  refine r_iadd d_M_aOf_16 ?_
  rw [hat, add2, mul110, nI_add, ← nI_succ]
  refine r_ialdN (by first | with_reducible assumption | rfl) (show A + 2 + 110 * l + 1 < 884 by omega) d_M_aOf_17 ?_
  refine r_iret .int d_M_aOf_18 rfl rfl ?_
  exact ⟨rfl, rfl⟩
set_option maxHeartbeats 400000 in
theorem c_M_boxOf {A l p : Nat} (hA : A ≤ 442) (hl : l < 4) (hp : p < 36) (μ : Me) (hat : μ.1 82 1 = nI A) : CtI m_M_boxOf 2 [.ref 82, .int (nI l), .int (nI p)] μ (boxS (rM (μ.1 83) A l p)) μ := by
  refine Ct.of (ls := [.ref 82, .int (nI l), .int (nI p), flr]) rfl (Nat.le_of_ble_eq_true rfl) rfl (fun X => ?_)
  refine r_iconst 1 d_M_boxOf_0 rfl ?_
  refine r_aload_n 0 d_M_boxOf_1 rfl rfl ?_
  refine r_iload_n 1 d_M_boxOf_2 rfl rfl ?_
  refine r_iload_n 2 d_M_boxOf_3 rfl rfl ?_
  refine r_callVi (c_M_rightsOf hA hl hp _ hat) lk_M_127 (by first | with_reducible assumption | rfl) d_M_boxOf_4 rfl rfl (Nat.le_of_ble_eq_true rfl) (by decide) ?_
  refine r_iconst 2 d_M_boxOf_7 rfl ?_
  refine r_idiv d_M_boxOf_8 (by first | decide | assumption) ?_
  refine r_iadd d_M_boxOf_9 ?_
  refine r_istore_n 3 [_, _, _, _] d_M_boxOf_10 rfl (by decide) rfl ?_
  refine r_iload_n 3 d_M_boxOf_11 rfl rfl ?_
  refine r_iconst 5 d_M_boxOf_12 rfl ?_
  refine r_icmp_le d_M_boxOf_13 (fun h13 => ?_) (fun h13 => ?_)
  · refine r_iload_n 3 d_M_boxOf_20 rfl rfl ?_
    refine r_iret .int d_M_boxOf_21 rfl rfl ?_
    refine ⟨?_, rfl⟩
    generalize rM (μ.1 83) A l p = x at *
    unfold boxS
    generalize 1 + x / 2 = y at *
    grind
  · refine r_iconst 5 d_M_boxOf_16 rfl ?_
    refine r_goto d_M_boxOf_17 ?_
    refine r_iret .int d_M_boxOf_21 rfl rfl ?_
    refine ⟨?_, rfl⟩
    generalize rM (μ.1 83) A l p = x at *
    unfold boxS
    generalize 1 + x / 2 = y at *
    grind
theorem due_e {x r : Int32} (h : x = -9 ∨ 0 ≤ x) : (if x < 0 then (0 : Int32) else x + 1 <<< ((boxS r - 1) &&& 31)) = dueS x r := by
  rcases h with h | h
  · subst h; rw [if_pos (by decide), dueS, if_pos rfl]
  · rw [if_neg (Int32.not_lt.mpr h), dueS, if_neg (fun z => by subst z; exact absurd h (by decide))]
set_option maxHeartbeats 400000 in
theorem c_M_dueOf {A l p : Nat} (hA : A ≤ 442) (hl : l < 4) (hp : p < 36) (μ : Me) (hat : μ.1 82 1 = nI A) (hlt : lM (μ.1 83) A l p = -9 ∨ 0 ≤ lM (μ.1 83) A l p) : CtI m_M_dueOf 3 [.ref 82, .int (nI l), .int (nI p)] μ (dueS (lM (μ.1 83) A l p) (rM (μ.1 83) A l p)) μ := by
  refine Ct.of (ls := [.ref 82, .int (nI l), .int (nI p)]) rfl (Nat.le_of_ble_eq_true rfl) rfl (fun X => ?_)
  rw [← due_e hlt]
  refine r_aload_n 0 d_M_dueOf_0 rfl rfl ?_
  refine r_iload_n 1 d_M_dueOf_1 rfl rfl ?_
  refine r_iload_n 2 d_M_dueOf_2 rfl rfl ?_
  refine r_callVi (c_M_latestOf hA hl hp _ hat) lk_M_130 (by first | with_reducible assumption | rfl) d_M_dueOf_3 rfl rfl (Nat.le_of_ble_eq_true rfl) (by decide) ?_
  refine r_if_ge d_M_dueOf_6 (fun h6 => ?_) (fun h6 => ?_)
  · refine r_aload_n 0 d_M_dueOf_13 rfl rfl ?_
    refine r_iload_n 1 d_M_dueOf_14 rfl rfl ?_
    refine r_iload_n 2 d_M_dueOf_15 rfl rfl ?_
    refine r_callVi (c_M_latestOf hA hl hp _ hat) lk_M_130 (by first | with_reducible assumption | rfl) d_M_dueOf_16 rfl rfl (Nat.le_of_ble_eq_true rfl) (by decide) ?_
    refine r_iconst 1 d_M_dueOf_19 rfl ?_
    refine r_aload_n 0 d_M_dueOf_20 rfl rfl ?_
    refine r_iload_n 1 d_M_dueOf_21 rfl rfl ?_
    refine r_iload_n 2 d_M_dueOf_22 rfl rfl ?_
    refine r_callVi (c_M_boxOf hA hl hp _ hat) lk_M_133 (by first | with_reducible assumption | rfl) d_M_dueOf_23 rfl rfl (Nat.le_of_ble_eq_true rfl) (by decide) ?_
    refine r_iconst 1 d_M_dueOf_26 rfl ?_
    refine r_isub d_M_dueOf_27 ?_
    refine r_ishl d_M_dueOf_28 ?_
    refine r_iadd d_M_dueOf_29 ?_
    refine r_iret .int d_M_dueOf_30 rfl rfl ?_
    refine ⟨?_, rfl⟩
    first
      | rw [if_neg (Int32.not_lt.mpr h6)]
      | rw [if_pos (Int32.not_le.mp h6)]
  · refine r_iconst 0 d_M_dueOf_9 rfl ?_
    refine r_goto d_M_dueOf_10 ?_
    refine r_iret .int d_M_dueOf_30 rfl rfl ?_
    refine ⟨?_, rfl⟩
    first
      | rw [if_neg (Int32.not_lt.mpr h6)]
      | rw [if_pos (Int32.not_le.mp h6)]
set_option maxHeartbeats 400000 in
theorem c_M_firmInAll {A l : Nat} (hA : A ≤ 442) (hl : l < 4) (μ : Me) (hat : μ.1 82 1 = nI A) : CtI m_M_firmInAll 2 [.ref 82, .int (nI l)] μ (sumF (fM (μ.1 83) A l) 36) μ := by
  refine Ct.of (ls := [.ref 82, .int (nI l), flr, flr]) rfl (Nat.le_of_ble_eq_true rfl) rfl (fun X => ?_)
  refine r_iconst 0 d_M_firmInAll_0 rfl ?_
  refine r_istore_n 2 [_, _, _, _] d_M_firmInAll_1 rfl (by decide) rfl ?_
  refine r_iconst 0 d_M_firmInAll_2 rfl ?_
  refine r_istore_n 3 [_, _, _, _] d_M_firmInAll_3 rfl (by decide) rfl ?_
  refine lpN 36 (fun i (w : Int32) => Wa X m_M_firmInAll 2 4 [.ref 82, .int (nI l), .int w, .int (nI i)] [] μ _) (fun i w => w = sumF (fM (μ.1 83) A l) i) ?_ 0 0 (Nat.zero_le _) rfl
  intro i w hi hw hk
  refine r_iload_n 3 d_M_firmInAll_4 rfl rfl ?_
  refine r_bipush (36) d_M_firmInAll_5 (by decide) ?_
  refine r_icmp_ge d_M_firmInAll_7 (fun h7 => ?_) (fun h7 => ?_)
  · refine r_iload_n 2 d_M_firmInAll_25 rfl rfl ?_
    refine r_iret .int d_M_firmInAll_26 rfl rfl ?_
    have h1 := n_le (a := 36) h7 rfl rfl (by decide) (by omega)
    obtain rfl : i = 36 := by omega
    exact ⟨by rw [hw], rfl⟩
  · have hli : i < 36 := n_lt (a := 36) h7 rfl rfl (by decide) (by omega)
    refine r_iload_n 2 d_M_firmInAll_10 rfl rfl ?_
    refine r_aload_n 0 d_M_firmInAll_11 rfl rfl ?_
    refine r_iload_n 1 d_M_firmInAll_12 rfl rfl ?_
    refine r_iload_n 3 d_M_firmInAll_13 rfl rfl ?_
    refine r_callVi (c_M_firmOf hA hl hli _ hat) lk_M_112 (by first | with_reducible assumption | rfl) d_M_firmInAll_14 rfl rfl (Nat.le_of_ble_eq_true rfl) (by decide) ?_
    refine r_iadd d_M_firmInAll_17 ?_
    refine r_istore_n 2 [_, _, _, _] d_M_firmInAll_18 rfl (by decide) rfl ?_
    first | refine r_iincN 3 [_, _, _, _] d_M_firmInAll_19 (by decide) rfl rfl ?_ | refine r_iinc 3 [_, _, _, _] (1) d_M_firmInAll_19 (by decide) (by decide) rfl rfl ?_
    refine r_goto d_M_firmInAll_22 ?_
    exact hk _ hli (by rw [sumF, hw])
theorem nIb {j m : Nat} (hj : j < m) (hm : m ≤ 4) : 0 ≤ nI j ∧ nI j < nI m := ⟨nI_pos' (by omega), nI_lt hj (by omega)⟩
theorem pIb {p : Nat} (hp : p < 36) : 0 ≤ nI p ∧ nI p < 36 := ⟨nI_pos' (by omega), nI_lt hp (by decide)⟩
set_option maxHeartbeats 400000 in
theorem c_M_learnerOf_no {m : Nat} (hm : m ≤ 4) (l w : Int32) (μ : Me) (hct : μ.1 83 0 = nI m) (hG : ¬ ((0 ≤ l ∧ l < nI m) ∧ 0 ≤ w ∧ w ≤ 2)) : CtI m_M_learnerOf 3 [.ref 82, .int l, .int w] μ (-1) μ := by
  refine Ct.of (ls := [.ref 82, .int l, .int w]) rfl (Nat.le_of_ble_eq_true rfl) rfl (fun X => ?_)
  refine r_aload_n 0 d_M_learnerOf_0 rfl rfl ?_
  refine r_iload_n 1 d_M_learnerOf_1 rfl rfl ?_
  refine r_callVi (c_M_isLearner hm _ _ hct) lk_M_115 (by first | with_reducible assumption | rfl) d_M_learnerOf_2 rfl rfl (Nat.le_of_ble_eq_true rfl) (by decide) ?_
  refine r_if_eq d_M_learnerOf_5 (fun h5 => ?_) (fun h5 => ?_)
  · refine r_iconst (-1) d_M_learnerOf_17 rfl ?_
    refine r_iret .int d_M_learnerOf_18 rfl rfl ?_
    exact ⟨rfl, rfl⟩
  · refine r_iload_n 2 d_M_learnerOf_8 rfl rfl ?_
    refine r_iconst 0 d_M_learnerOf_9 rfl ?_
    refine r_iconst 2 d_M_learnerOf_10 rfl ?_
    refine r_callSi (c_M_in _ _ _ _) lk_M_72 d_M_learnerOf_11 rfl rfl (Nat.le_of_ble_eq_true rfl) (by decide) ?_
    refine r_if_ne d_M_learnerOf_14 (fun h14 => ?_) (fun h14 => ?_)
    · exact absurd ⟨bz_p h5, bz_p h14⟩ hG
    · refine r_iconst (-1) d_M_learnerOf_17 rfl ?_
      refine r_iret .int d_M_learnerOf_18 rfl rfl ?_
      exact ⟨rfl, rfl⟩
set_option maxHeartbeats 400000 in
theorem c_M_learnerOf {m j : Nat} (hm : m ≤ 4) (hj : j < m) (w : Int32) (hw : 0 ≤ w ∧ w ≤ 2) (μ : Me) (hct : μ.1 83 0 = nI m) (hat : μ.1 82 1 = nI 0) : CtI m_M_learnerOf 3 [.ref 82, .int (nI j), .int w] μ (if w = 0 then kM (μ.1 83) 0 j else if w = 1 then aM (μ.1 83) 0 j else sumF (fM (μ.1 83) 0 j) 36) μ := by
  refine Ct.of (ls := [.ref 82, .int (nI j), .int w]) rfl (Nat.le_of_ble_eq_true rfl) rfl (fun X => ?_)
  refine r_aload_n 0 d_M_learnerOf_0 rfl rfl ?_
  refine r_iload_n 1 d_M_learnerOf_1 rfl rfl ?_
  refine r_callVi (c_M_isLearner hm _ _ hct) lk_M_115 (by first | with_reducible assumption | rfl) d_M_learnerOf_2 rfl rfl (Nat.le_of_ble_eq_true rfl) (by decide) ?_
  refine r_if_eq d_M_learnerOf_5 (fun h5 => absurd h5 (bzy (nIb hj hm))) (fun h5 => ?_)
  refine r_iload_n 2 d_M_learnerOf_8 rfl rfl ?_
  refine r_iconst 0 d_M_learnerOf_9 rfl ?_
  refine r_iconst 2 d_M_learnerOf_10 rfl ?_
  refine r_callSi (c_M_in _ _ _ _) lk_M_72 d_M_learnerOf_11 rfl rfl (Nat.le_of_ble_eq_true rfl) (by decide) ?_
  refine r_if_ne d_M_learnerOf_14 (fun h14 => ?_) (fun h14 => absurd h14 (bzy hw))
  refine r_iload_n 2 d_M_learnerOf_19 rfl rfl ?_
  refine r_if_ne d_M_learnerOf_20 (fun h20 => ?_) (fun h20 => ?_)
  · refine r_iload_n 2 d_M_learnerOf_31 rfl rfl ?_
    refine r_iconst 1 d_M_learnerOf_32 rfl ?_
    refine r_icmp_ne d_M_learnerOf_33 (fun h33 => ?_) (fun h33 => ?_)
    · refine r_aload_n 0 d_M_learnerOf_44 rfl rfl ?_
      refine r_iload_n 1 d_M_learnerOf_45 rfl rfl ?_
      refine r_callVi (c_M_firmInAll (by decide) (show j < 4 by omega) _ hat) lk_M_124 (by first | with_reducible assumption | rfl) d_M_learnerOf_46 rfl rfl (Nat.le_of_ble_eq_true rfl) (by decide) ?_
      refine r_iret .int d_M_learnerOf_49 rfl rfl ?_
      refine ⟨?_, rfl⟩
      first
        | rw [if_neg h20, if_neg h33]
        | rw [if_neg h20, if_pos h33]
        | rw [if_pos h20]
    · refine r_aload_n 0 d_M_learnerOf_36 rfl rfl ?_
      refine r_iload_n 1 d_M_learnerOf_37 rfl rfl ?_
      refine r_callVi (c_M_aOf (by decide) (show j < 4 by omega) _ hat) lk_M_121 (by first | with_reducible assumption | rfl) d_M_learnerOf_38 rfl rfl (Nat.le_of_ble_eq_true rfl) (by decide) ?_
      refine r_goto d_M_learnerOf_41 ?_
      refine r_iret .int d_M_learnerOf_49 rfl rfl ?_
      refine ⟨?_, rfl⟩
      first
        | rw [if_neg h20, if_neg h33]
        | rw [if_neg h20, if_pos h33]
        | rw [if_pos h20]
  · refine r_aload_n 0 d_M_learnerOf_23 rfl rfl ?_
    refine r_iload_n 1 d_M_learnerOf_24 rfl rfl ?_
    refine r_callVi (c_M_kindOf (by decide) (show j < 4 by omega) _ hat) lk_M_118 (by first | with_reducible assumption | rfl) d_M_learnerOf_25 rfl rfl (Nat.le_of_ble_eq_true rfl) (by decide) ?_
    refine r_goto d_M_learnerOf_28 ?_
    refine r_iret .int d_M_learnerOf_49 rfl rfl ?_
    refine ⟨?_, rfl⟩
    first
      | rw [if_neg h20, if_neg h33]
      | rw [if_neg h20, if_pos h33]
      | rw [if_pos h20]
set_option maxHeartbeats 400000 in
theorem c_M_head_no {m : Nat} (hm : m ≤ 4) (l p w : Int32) (μ : Me) (hct : μ.1 83 0 = nI m) (hG : ¬ ((0 ≤ l ∧ l < nI m) ∧ (0 ≤ p ∧ p < 36) ∧ 0 ≤ w ∧ w ≤ 4)) : CtI m_M_head 4 [.ref 82, .int l, .int p, .int w] μ (-1) μ := by
  refine Ct.of (ls := [.ref 82, .int l, .int p, .int w]) rfl (Nat.le_of_ble_eq_true rfl) rfl (fun X => ?_)
  refine r_aload_n 0 d_M_head_0 rfl rfl ?_
  refine r_iload_n 1 d_M_head_1 rfl rfl ?_
  refine r_callVi (c_M_isLearner hm _ _ hct) lk_M_115 (by first | with_reducible assumption | rfl) d_M_head_2 rfl rfl (Nat.le_of_ble_eq_true rfl) (by decide) ?_
  refine r_if_eq d_M_head_5 (fun h5 => ?_) (fun h5 => ?_)
  · refine r_iconst (-1) d_M_head_24 rfl ?_
    refine r_iret .int d_M_head_25 rfl rfl ?_
    exact ⟨rfl, rfl⟩
  · refine r_iload_n 2 d_M_head_8 rfl rfl ?_
    refine r_callSi (c_M_isPair _ _) lk_M_91 d_M_head_9 rfl rfl (Nat.le_of_ble_eq_true rfl) (by decide) ?_
    refine r_if_eq d_M_head_12 (fun h12 => ?_) (fun h12 => ?_)
    · refine r_iconst (-1) d_M_head_24 rfl ?_
      refine r_iret .int d_M_head_25 rfl rfl ?_
      exact ⟨rfl, rfl⟩
    · refine r_iload_n 3 d_M_head_15 rfl rfl ?_
      refine r_iconst 0 d_M_head_16 rfl ?_
      refine r_iconst 4 d_M_head_17 rfl ?_
      refine r_callSi (c_M_in _ _ _ _) lk_M_72 d_M_head_18 rfl rfl (Nat.le_of_ble_eq_true rfl) (by decide) ?_
      refine r_if_ne d_M_head_21 (fun h21 => ?_) (fun h21 => ?_)
      · exact absurd ⟨bz_p h5, bz_p h12, bz_p h21⟩ hG
      · refine r_iconst (-1) d_M_head_24 rfl ?_
        refine r_iret .int d_M_head_25 rfl rfl ?_
        exact ⟨rfl, rfl⟩
set_option maxHeartbeats 400000 in
theorem c_M_head {m j p w : Nat} (hm : m ≤ 4) (hj : j < m) (hp : p < 36) (hw : w ≤ 4) (μ : Me) (hct : μ.1 83 0 = nI m) (hat : μ.1 82 1 = nI 0) (hlt : lM (μ.1 83) 0 j p = -9 ∨ 0 ≤ lM (μ.1 83) 0 j p) : CtI m_M_head 4 [.ref 82, .int (nI j), .int (nI p), .int (nI w)] μ (if w < 3 then μ.1 83 (0 + 4 + 110 * j + 3 * p + w) else if w = 3 then boxS (rM (μ.1 83) 0 j p) else dueS (lM (μ.1 83) 0 j p) (rM (μ.1 83) 0 j p)) μ := by
  refine Ct.of (ls := [.ref 82, .int (nI j), .int (nI p), .int (nI w)]) rfl (Nat.le_of_ble_eq_true rfl) rfl (fun X => ?_)
  refine r_aload_n 0 d_M_head_0 rfl rfl ?_
  refine r_iload_n 1 d_M_head_1 rfl rfl ?_
  refine r_callVi (c_M_isLearner hm _ _ hct) lk_M_115 (by first | with_reducible assumption | rfl) d_M_head_2 rfl rfl (Nat.le_of_ble_eq_true rfl) (by decide) ?_
  refine r_if_eq d_M_head_5 (fun h5 => absurd h5 (bzy (nIb hj hm))) (fun h5 => ?_)
  refine r_iload_n 2 d_M_head_8 rfl rfl ?_
  refine r_callSi (c_M_isPair _ _) lk_M_91 d_M_head_9 rfl rfl (Nat.le_of_ble_eq_true rfl) (by decide) ?_
  refine r_if_eq d_M_head_12 (fun h12 => absurd h12 (bzy (pIb hp))) (fun h12 => ?_)
  refine r_iload_n 3 d_M_head_15 rfl rfl ?_
  refine r_iconst 0 d_M_head_16 rfl ?_
  refine r_iconst 4 d_M_head_17 rfl ?_
  refine r_callSi (c_M_in _ _ _ _) lk_M_72 d_M_head_18 rfl rfl (Nat.le_of_ble_eq_true rfl) (by decide) ?_
  refine r_if_ne d_M_head_21 (fun h21 => ?_) (fun h21 => absurd h21 (bzy ⟨nI_pos' (by omega), nI_le (b := 4) hw (by decide)⟩))
  refine r_iload_n 3 d_M_head_26 rfl rfl ?_
  refine r_iconst 3 d_M_head_27 rfl ?_
  refine r_icmp_ge d_M_head_28 (fun h28 => ?_) (fun h28 => ?_)
  · refine r_iload_n 3 d_M_head_47 rfl rfl ?_
    refine r_iconst 3 d_M_head_48 rfl ?_
    refine r_icmp_ne d_M_head_49 (fun h49 => ?_) (fun h49 => ?_)
    · refine r_aload_n 0 d_M_head_61 rfl rfl ?_
      refine r_iload_n 1 d_M_head_62 rfl rfl ?_
      refine r_iload_n 2 d_M_head_63 rfl rfl ?_
      refine r_callVi (c_M_dueOf (by decide) (show j < 4 by omega) hp _ hat hlt) lk_M_136 (by first | with_reducible assumption | rfl) d_M_head_64 rfl rfl (Nat.le_of_ble_eq_true rfl) (by decide) ?_
      refine r_iret .int d_M_head_67 rfl rfl ?_
      refine ⟨?_, rfl⟩
      first
        | rw [if_pos hw3]
        | (rw [if_neg (fun z => absurd h28 (nI_ge (b := 3) z (by decide))), if_pos ((nI_eq (b := 3) (by omega) (by decide)).mp h49)])
        | (rw [if_neg (fun z => absurd h28 (nI_ge (b := 3) z (by decide))), if_neg (fun z => h49 (by rw [z]; rfl))])
    · refine r_aload_n 0 d_M_head_52 rfl rfl ?_
      refine r_iload_n 1 d_M_head_53 rfl rfl ?_
      refine r_iload_n 2 d_M_head_54 rfl rfl ?_
      refine r_callVi (c_M_boxOf (by decide) (show j < 4 by omega) hp _ hat) lk_M_133 (by first | with_reducible assumption | rfl) d_M_head_55 rfl rfl (Nat.le_of_ble_eq_true rfl) (by decide) ?_
      refine r_goto d_M_head_58 ?_
      refine r_iret .int d_M_head_67 rfl rfl ?_
      refine ⟨?_, rfl⟩
      first
        | rw [if_pos hw3]
        | (rw [if_neg (fun z => absurd h28 (nI_ge (b := 3) z (by decide))), if_pos ((nI_eq (b := 3) (by omega) (by decide)).mp h49)])
        | (rw [if_neg (fun z => absurd h28 (nI_ge (b := 3) z (by decide))), if_neg (fun z => h49 (by rw [z]; rfl))])
  · refine r_aload_n 0 d_M_head_31 rfl rfl ?_
    refine r_getR fl_M_7 (by first | with_reducible assumption | rfl) rfl d_M_head_32 ?_
    refine r_aload_n 0 d_M_head_35 rfl rfl ?_
    refine r_iload_n 1 d_M_head_36 rfl rfl ?_
    refine r_iload_n 2 d_M_head_37 rfl rfl ?_
    refine r_callVi (c_M_place _ hat) lk_M_109 (by first | with_reducible assumption | rfl) d_M_head_38 rfl rfl (Nat.le_of_ble_eq_true rfl) (by decide) ?_
    refine r_iload_n 3 d_M_head_41 rfl rfl ?_
    refine r_iadd d_M_head_42 ?_
    have hw3 : w < 3 := Nat.not_le.mp (fun z => h28 (nI_le (a := 3) z (by omega)))
    rw [nI_add]
    refine r_ialdN (by first | with_reducible assumption | rfl) (show 0 + 4 + 110 * j + 3 * p + w < 884 by omega) d_M_head_43 ?_
    refine r_goto d_M_head_44 ?_
    refine r_iret .int d_M_head_67 rfl rfl ?_
    refine ⟨?_, rfl⟩
    first
      | rw [if_pos hw3]
      | (rw [if_neg (fun z => absurd h28 (nI_ge (b := 3) z (by decide))), if_pos ((nI_eq (b := 3) (by omega) (by decide)).mp h49)])
      | (rw [if_neg (fun z => absurd h28 (nI_ge (b := 3) z (by decide))), if_neg (fun z => h49 (by rw [z]; rfl))])
set_option maxHeartbeats 400000 in
theorem c_M_firm_no {m : Nat} (hm : m ≤ 4) (l p w : Int32) (μ : Me) (hct : μ.1 83 0 = nI m) (hG : ¬ ((0 ≤ l ∧ l < nI m) ∧ (0 ≤ p ∧ p < 36) ∧ 0 ≤ w ∧ w ≤ 100)) : CtI m_M_firm 2 [.ref 82, .int l, .int p, .int w] μ (-1) μ := by
  refine Ct.of (ls := [.ref 82, .int l, .int p, .int w, flr]) rfl (Nat.le_of_ble_eq_true rfl) rfl (fun X => ?_)
  refine r_aload_n 0 d_M_firm_0 rfl rfl ?_
  refine r_iload_n 1 d_M_firm_1 rfl rfl ?_
  refine r_callVi (c_M_isLearner hm _ _ hct) lk_M_115 (by first | with_reducible assumption | rfl) d_M_firm_2 rfl rfl (Nat.le_of_ble_eq_true rfl) (by decide) ?_
  refine r_if_eq d_M_firm_5 (fun h5 => ?_) (fun h5 => ?_)
  · refine r_iconst (-1) d_M_firm_25 rfl ?_
    refine r_iret .int d_M_firm_26 rfl rfl ?_
    exact ⟨rfl, rfl⟩
  · refine r_iload_n 2 d_M_firm_8 rfl rfl ?_
    refine r_callSi (c_M_isPair _ _) lk_M_91 d_M_firm_9 rfl rfl (Nat.le_of_ble_eq_true rfl) (by decide) ?_
    refine r_if_eq d_M_firm_12 (fun h12 => ?_) (fun h12 => ?_)
    · refine r_iconst (-1) d_M_firm_25 rfl ?_
      refine r_iret .int d_M_firm_26 rfl rfl ?_
      exact ⟨rfl, rfl⟩
    · refine r_iload_n 3 d_M_firm_15 rfl rfl ?_
      refine r_iconst 0 d_M_firm_16 rfl ?_
      refine r_bipush (100) d_M_firm_17 (by decide) ?_
      refine r_callSi (c_M_in _ _ _ _) lk_M_72 d_M_firm_19 rfl rfl (Nat.le_of_ble_eq_true rfl) (by decide) ?_
      refine r_if_ne d_M_firm_22 (fun h22 => ?_) (fun h22 => ?_)
      · exact absurd ⟨bz_p h5, bz_p h12, bz_p h22⟩ hG
      · refine r_iconst (-1) d_M_firm_25 rfl ?_
        refine r_iret .int d_M_firm_26 rfl rfl ?_
        exact ⟨rfl, rfl⟩
set_option maxHeartbeats 400000 in
theorem c_M_firm {m j p : Nat} (hm : m ≤ 4) (hj : j < m) (hp : p < 36) (w : Int32) (hw : 0 ≤ w ∧ w ≤ 100) (μ : Me) (hct : μ.1 83 0 = nI m) (hat : μ.1 82 1 = nI 0) : CtI m_M_firm 2 [.ref 82, .int (nI j), .int (nI p), .int w] μ (fM (μ.1 83) 0 j p) (uI μ 83 (0 + 4 + 110 * j + 3 * p) w) := by
  refine Ct.of (ls := [.ref 82, .int (nI j), .int (nI p), .int w, flr]) rfl (Nat.le_of_ble_eq_true rfl) rfl (fun X => ?_)
  refine r_aload_n 0 d_M_firm_0 rfl rfl ?_
  refine r_iload_n 1 d_M_firm_1 rfl rfl ?_
  refine r_callVi (c_M_isLearner hm _ _ hct) lk_M_115 (by first | with_reducible assumption | rfl) d_M_firm_2 rfl rfl (Nat.le_of_ble_eq_true rfl) (by decide) ?_
  refine r_if_eq d_M_firm_5 (fun h5 => absurd h5 (bzy (nIb hj hm))) (fun h5 => ?_)
  refine r_iload_n 2 d_M_firm_8 rfl rfl ?_
  refine r_callSi (c_M_isPair _ _) lk_M_91 d_M_firm_9 rfl rfl (Nat.le_of_ble_eq_true rfl) (by decide) ?_
  refine r_if_eq d_M_firm_12 (fun h12 => absurd h12 (bzy (pIb hp))) (fun h12 => ?_)
  refine r_iload_n 3 d_M_firm_15 rfl rfl ?_
  refine r_iconst 0 d_M_firm_16 rfl ?_
  refine r_bipush (100) d_M_firm_17 (by decide) ?_
  refine r_callSi (c_M_in _ _ _ _) lk_M_72 d_M_firm_19 rfl rfl (Nat.le_of_ble_eq_true rfl) (by decide) ?_
  refine r_if_ne d_M_firm_22 (fun h22 => ?_) (fun h22 => absurd h22 (bzy hw))
  refine r_aload_n 0 d_M_firm_27 rfl rfl ?_
  refine r_iload_n 1 d_M_firm_28 rfl rfl ?_
  refine r_iload_n 2 d_M_firm_29 rfl rfl ?_
  refine r_callVi (c_M_firmOf (by decide) (show j < 4 by omega) hp _ hat) lk_M_112 (by first | with_reducible assumption | rfl) d_M_firm_30 rfl rfl (Nat.le_of_ble_eq_true rfl) (by decide) ?_
  refine r_istore 4 [_, _, _, _, _] d_M_firm_33 (by decide) rfl ?_
  refine r_aload_n 0 d_M_firm_35 rfl rfl ?_
  refine r_getR fl_M_7 (by first | with_reducible assumption | rfl) rfl d_M_firm_36 ?_
  refine r_aload_n 0 d_M_firm_39 rfl rfl ?_
  refine r_iload_n 1 d_M_firm_40 rfl rfl ?_
  refine r_iload_n 2 d_M_firm_41 rfl rfl ?_
  refine r_callVi (c_M_place _ hat) lk_M_109 (by first | with_reducible assumption | rfl) d_M_firm_42 rfl rfl (Nat.le_of_ble_eq_true rfl) (by decide) ?_
  refine r_iload_n 3 d_M_firm_45 rfl rfl ?_
  refine r_iastN (by first | with_reducible assumption | rfl) (by first | with_reducible assumption | omega | decide | assumption) d_M_firm_46 ?_
  refine r_iload 4 d_M_firm_47 rfl ?_
  refine r_iret .int d_M_firm_49 rfl rfl ?_
  exact ⟨rfl, rfl⟩
set_option maxHeartbeats 400000 in
theorem c_M_rights_no {m : Nat} (hm : m ≤ 4) (l p w : Int32) (μ : Me) (hct : μ.1 83 0 = nI m) (hG : ¬ ((0 ≤ l ∧ l < nI m) ∧ (0 ≤ p ∧ p < 36) ∧ 0 ≤ w ∧ w ≤ 9)) : CtI m_M_rights 2 [.ref 82, .int l, .int p, .int w] μ (-1) μ := by
  refine Ct.of (ls := [.ref 82, .int l, .int p, .int w, flr]) rfl (Nat.le_of_ble_eq_true rfl) rfl (fun X => ?_)
  refine r_aload_n 0 d_M_rights_0 rfl rfl ?_
  refine r_iload_n 1 d_M_rights_1 rfl rfl ?_
  refine r_callVi (c_M_isLearner hm _ _ hct) lk_M_115 (by first | with_reducible assumption | rfl) d_M_rights_2 rfl rfl (Nat.le_of_ble_eq_true rfl) (by decide) ?_
  refine r_if_eq d_M_rights_5 (fun h5 => ?_) (fun h5 => ?_)
  · refine r_iconst (-1) d_M_rights_25 rfl ?_
    refine r_iret .int d_M_rights_26 rfl rfl ?_
    exact ⟨rfl, rfl⟩
  · refine r_iload_n 2 d_M_rights_8 rfl rfl ?_
    refine r_callSi (c_M_isPair _ _) lk_M_91 d_M_rights_9 rfl rfl (Nat.le_of_ble_eq_true rfl) (by decide) ?_
    refine r_if_eq d_M_rights_12 (fun h12 => ?_) (fun h12 => ?_)
    · refine r_iconst (-1) d_M_rights_25 rfl ?_
      refine r_iret .int d_M_rights_26 rfl rfl ?_
      exact ⟨rfl, rfl⟩
    · refine r_iload_n 3 d_M_rights_15 rfl rfl ?_
      refine r_iconst 0 d_M_rights_16 rfl ?_
      refine r_bipush (9) d_M_rights_17 (by decide) ?_
      refine r_callSi (c_M_in _ _ _ _) lk_M_72 d_M_rights_19 rfl rfl (Nat.le_of_ble_eq_true rfl) (by decide) ?_
      refine r_if_ne d_M_rights_22 (fun h22 => ?_) (fun h22 => ?_)
      · exact absurd ⟨bz_p h5, bz_p h12, bz_p h22⟩ hG
      · refine r_iconst (-1) d_M_rights_25 rfl ?_
        refine r_iret .int d_M_rights_26 rfl rfl ?_
        exact ⟨rfl, rfl⟩
set_option maxHeartbeats 400000 in
theorem c_M_rights {m j p : Nat} (hm : m ≤ 4) (hj : j < m) (hp : p < 36) (w : Int32) (hw : 0 ≤ w ∧ w ≤ 9) (μ : Me) (hct : μ.1 83 0 = nI m) (hat : μ.1 82 1 = nI 0) : CtI m_M_rights 2 [.ref 82, .int (nI j), .int (nI p), .int w] μ (rM (μ.1 83) 0 j p) (uI μ 83 (0 + 4 + 110 * j + 3 * p + 1) w) := by
  refine Ct.of (ls := [.ref 82, .int (nI j), .int (nI p), .int w, flr]) rfl (Nat.le_of_ble_eq_true rfl) rfl (fun X => ?_)
  refine r_aload_n 0 d_M_rights_0 rfl rfl ?_
  refine r_iload_n 1 d_M_rights_1 rfl rfl ?_
  refine r_callVi (c_M_isLearner hm _ _ hct) lk_M_115 (by first | with_reducible assumption | rfl) d_M_rights_2 rfl rfl (Nat.le_of_ble_eq_true rfl) (by decide) ?_
  refine r_if_eq d_M_rights_5 (fun h5 => absurd h5 (bzy (nIb hj hm))) (fun h5 => ?_)
  refine r_iload_n 2 d_M_rights_8 rfl rfl ?_
  refine r_callSi (c_M_isPair _ _) lk_M_91 d_M_rights_9 rfl rfl (Nat.le_of_ble_eq_true rfl) (by decide) ?_
  refine r_if_eq d_M_rights_12 (fun h12 => absurd h12 (bzy (pIb hp))) (fun h12 => ?_)
  refine r_iload_n 3 d_M_rights_15 rfl rfl ?_
  refine r_iconst 0 d_M_rights_16 rfl ?_
  refine r_bipush (9) d_M_rights_17 (by decide) ?_
  refine r_callSi (c_M_in _ _ _ _) lk_M_72 d_M_rights_19 rfl rfl (Nat.le_of_ble_eq_true rfl) (by decide) ?_
  refine r_if_ne d_M_rights_22 (fun h22 => ?_) (fun h22 => absurd h22 (bzy hw))
  refine r_aload_n 0 d_M_rights_27 rfl rfl ?_
  refine r_iload_n 1 d_M_rights_28 rfl rfl ?_
  refine r_iload_n 2 d_M_rights_29 rfl rfl ?_
  refine r_callVi (c_M_rightsOf (by decide) (show j < 4 by omega) hp _ hat) lk_M_127 (by first | with_reducible assumption | rfl) d_M_rights_30 rfl rfl (Nat.le_of_ble_eq_true rfl) (by decide) ?_
  refine r_istore 4 [_, _, _, _, _] d_M_rights_33 (by decide) rfl ?_
  refine r_aload_n 0 d_M_rights_35 rfl rfl ?_
  refine r_getR fl_M_7 (by first | with_reducible assumption | rfl) rfl d_M_rights_36 ?_
  refine r_aload_n 0 d_M_rights_39 rfl rfl ?_
  refine r_iload_n 1 d_M_rights_40 rfl rfl ?_
  refine r_iload_n 2 d_M_rights_41 rfl rfl ?_
  refine r_callVi (c_M_place _ hat) lk_M_109 (by first | with_reducible assumption | rfl) d_M_rights_42 rfl rfl (Nat.le_of_ble_eq_true rfl) (by decide) ?_
  refine r_iconst 1 d_M_rights_45 rfl ?_
  refine r_iadd d_M_rights_46 ?_
  refine r_iload_n 3 d_M_rights_47 rfl rfl ?_
  rw [← nI_succ]
  refine r_iastN (by first | with_reducible assumption | rfl) (show 0 + 4 + 110 * j + 3 * p + 1 < 884 by omega) d_M_rights_48 ?_
  refine r_iload 4 d_M_rights_49 rfl ?_
  refine r_iret .int d_M_rights_51 rfl rfl ?_
  exact ⟨rfl, rfl⟩
theorem t3 {x : Int32} (h : 0 ≤ x ∧ x ≤ 2) : ∃ j, j < 3 ∧ x = nI j := by
  obtain ⟨n, hn, rfl⟩ := nI_of (x := x) (by grind)
  have h2 := (nI_leI (a := n) (b := 2) hn (by decide)).mp h.2
  exact ⟨n, by omega, rfl⟩
set_option maxHeartbeats 400000 in
theorem c_M_set_no (w v : Int32) (hw : ¬ ((0 ≤ w ∧ w < 3) ∧ 0 ≤ v ∧ v ≤ lmS w.toNatClampNeg)) (μ : Me) (hmo : ∀ q, q < 3 → μ.1 85 q = lmS q) : CtI m_M_set 1 [.ref 82, .int w, .int v] μ (-1) μ := by
  refine Ct.of (ls := [.ref 82, .int w, .int v, flr, flr]) rfl (Nat.le_of_ble_eq_true rfl) rfl (fun X => ?_)
  by_cases hP : 0 ≤ w ∧ w ≤ 2
  · obtain ⟨j, hj, rfl⟩ := t3 hP
    rw [cl36 hj (by decide)] at hw
    have hv : ¬ (0 ≤ v ∧ v ≤ lmS j) := fun z => hw ⟨⟨hP.1, nI_lt hj (by decide)⟩, z⟩
    refine r_iload_n 1 d_M_set_0 rfl rfl ?_
    refine r_iconst 0 d_M_set_1 rfl ?_
    refine r_iconst 2 d_M_set_2 rfl ?_
    refine r_callSi (c_M_in _ _ _ _) lk_M_72 d_M_set_3 rfl rfl (Nat.le_of_ble_eq_true rfl) (by decide) ?_
    refine r_if_eq d_M_set_6 (fun h6 => absurd h6 (bzy hP)) (fun h6 => ?_)
    refine r_iload_n 1 d_M_set_9 rfl rfl ?_
    refine r_goto d_M_set_10 ?_
    refine r_istore_n 3 [_, _, _, _, _] d_M_set_14 rfl (by decide) rfl ?_
    refine r_iload_n 3 d_M_set_15 rfl rfl ?_
    refine r_iload_n 1 d_M_set_16 rfl rfl ?_
    refine r_icmp_ne d_M_set_17 (fun h17 => absurd rfl h17) (fun h17 => ?_)
    refine r_iload_n 2 d_M_set_20 rfl rfl ?_
    refine r_iconst 0 d_M_set_21 rfl ?_
    refine r_aload_n 0 d_M_set_22 rfl rfl ?_
    refine r_getR fl_M_16 (by first | with_reducible assumption | rfl) rfl d_M_set_23 ?_
    refine r_iload_n 3 d_M_set_26 rfl rfl ?_
    refine r_ialdN (by first | with_reducible assumption | rfl) (by first | with_reducible assumption | omega | decide | assumption) d_M_set_27 ?_
    rw [hmo j hj]
    refine r_callSi (c_M_in _ _ _ _) lk_M_72 d_M_set_28 rfl rfl (Nat.le_of_ble_eq_true rfl) (by decide) ?_
    refine r_if_ne d_M_set_31 (fun h31 => absurd (bzn hv) h31) (fun h31 => ?_)
    refine r_iconst (-1) d_M_set_34 rfl ?_
    refine r_iret .int d_M_set_35 rfl rfl ?_
    exact ⟨rfl, rfl⟩
  · skip
    refine r_iload_n 1 d_M_set_0 rfl rfl ?_
    refine r_iconst 0 d_M_set_1 rfl ?_
    refine r_iconst 2 d_M_set_2 rfl ?_
    refine r_callSi (c_M_in _ _ _ _) lk_M_72 d_M_set_3 rfl rfl (Nat.le_of_ble_eq_true rfl) (by decide) ?_
    refine r_if_eq d_M_set_6 (fun h6 => ?_) (fun h6 => absurd (bzn hP) h6)
    refine r_iconst 0 d_M_set_13 rfl ?_
    refine r_istore_n 3 [_, _, _, _, _] d_M_set_14 rfl (by decide) rfl ?_
    refine r_iload_n 3 d_M_set_15 rfl rfl ?_
    refine r_iload_n 1 d_M_set_16 rfl rfl ?_
    refine r_icmp_ne d_M_set_17 (fun h17 => ?_) (fun h17 => absurd h17 (fun z => hP (by rw [← z]; decide)))
    refine r_iconst (-1) d_M_set_34 rfl ?_
    refine r_iret .int d_M_set_35 rfl rfl ?_
    exact ⟨rfl, rfl⟩
set_option maxHeartbeats 400000 in
theorem c_M_set (q : Nat) (hq : q < 3) (v : Int32) (hv : 0 ≤ v ∧ v ≤ lmS q) (μ : Me) (hmo : ∀ q, q < 3 → μ.1 85 q = lmS q) : CtI m_M_set 1 [.ref 82, .int (nI q), .int v] μ (μ.1 84 q) (uI μ 84 q v) := by
  refine Ct.of (ls := [.ref 82, .int (nI q), .int v, flr, flr]) rfl (Nat.le_of_ble_eq_true rfl) rfl (fun X => ?_)
  refine r_iload_n 1 d_M_set_0 rfl rfl ?_
  refine r_iconst 0 d_M_set_1 rfl ?_
  refine r_iconst 2 d_M_set_2 rfl ?_
  refine r_callSi (c_M_in _ _ _ _) lk_M_72 d_M_set_3 rfl rfl (Nat.le_of_ble_eq_true rfl) (by decide) ?_
  refine r_if_eq d_M_set_6 (fun h6 => absurd h6 (bzy ⟨nI_pos' (by omega), nI_le (b := 2) (by omega) (by decide)⟩)) (fun h6 => ?_)
  refine r_iload_n 1 d_M_set_9 rfl rfl ?_
  refine r_goto d_M_set_10 ?_
  refine r_istore_n 3 [_, _, _, _, _] d_M_set_14 rfl (by decide) rfl ?_
  refine r_iload_n 3 d_M_set_15 rfl rfl ?_
  refine r_iload_n 1 d_M_set_16 rfl rfl ?_
  refine r_icmp_ne d_M_set_17 (fun h17 => absurd rfl h17) (fun h17 => ?_)
  refine r_iload_n 2 d_M_set_20 rfl rfl ?_
  refine r_iconst 0 d_M_set_21 rfl ?_
  refine r_aload_n 0 d_M_set_22 rfl rfl ?_
  refine r_getR fl_M_16 (by first | with_reducible assumption | rfl) rfl d_M_set_23 ?_
  refine r_iload_n 3 d_M_set_26 rfl rfl ?_
  refine r_ialdN (by first | with_reducible assumption | rfl) (by first | with_reducible assumption | omega | decide | assumption) d_M_set_27 ?_
  rw [hmo q hq]
  refine r_callSi (c_M_in _ _ _ _) lk_M_72 d_M_set_28 rfl rfl (Nat.le_of_ble_eq_true rfl) (by decide) ?_
  refine r_if_ne d_M_set_31 (fun h31 => ?_) (fun h31 => absurd h31 (bzy hv))
  refine r_aload_n 0 d_M_set_36 rfl rfl ?_
  refine r_getR fl_M_13 (by first | with_reducible assumption | rfl) rfl d_M_set_37 ?_
  refine r_iload_n 1 d_M_set_40 rfl rfl ?_
  refine r_ialdN (by first | with_reducible assumption | rfl) (by first | with_reducible assumption | omega | decide | assumption) d_M_set_41 ?_
  refine r_istore 4 [_, _, _, _, _] d_M_set_42 (by decide) rfl ?_
  refine r_aload_n 0 d_M_set_44 rfl rfl ?_
  refine r_getR fl_M_13 (by first | with_reducible assumption | rfl) rfl d_M_set_45 ?_
  refine r_iload_n 1 d_M_set_48 rfl rfl ?_
  refine r_iload_n 2 d_M_set_49 rfl rfl ?_
  refine r_iastN (by first | with_reducible assumption | rfl) (by first | with_reducible assumption | omega | decide | assumption) d_M_set_50 ?_
  refine r_iload 4 d_M_set_51 rfl ?_
  refine r_iret .int d_M_set_53 rfl rfl ?_
  exact ⟨rfl, rfl⟩
set_option maxHeartbeats 400000 in
theorem c_M_day (μ : Me) : CtI m_M_day 0 [.ref 82] μ (μ.1 83 1) μ := by
  refine Ct.of (ls := [.ref 82]) rfl (Nat.le_of_ble_eq_true rfl) rfl (fun X => ?_)
  refine r_aload_n 0 d_M_day_0 rfl rfl ?_
  refine r_getR fl_M_7 (by first | with_reducible assumption | rfl) rfl d_M_day_1 ?_
  refine r_iconst 1 d_M_day_4 rfl ?_
  refine r_ialdN (j := 1) (by first | with_reducible assumption | rfl) (by first | with_reducible assumption | omega | decide | assumption) d_M_day_5 ?_
  refine r_iret .int d_M_day_6 rfl rfl ?_
  exact ⟨rfl, rfl⟩
set_option maxHeartbeats 400000 in
theorem c_M_seed (v : Int32) (μ : Me) : CtI m_M_seed 0 [.ref 82, .int v] μ (μ.1 82 4) (uI μ 82 4 v) := by
  refine Ct.of (ls := [.ref 82, .int v, flr]) rfl (Nat.le_of_ble_eq_true rfl) rfl (fun X => ?_)
  refine r_aload_n 0 d_M_seed_0 rfl rfl ?_
  refine r_getI fl_M_19 (by first | with_reducible assumption | rfl) rfl d_M_seed_1 ?_
  refine r_istore_n 2 [_, _, _] d_M_seed_4 rfl (by decide) rfl ?_
  refine r_aload_n 0 d_M_seed_5 rfl rfl ?_
  refine r_iload_n 1 d_M_seed_6 rfl rfl ?_
  refine r_putI fp_M_19 (by first | with_reducible assumption | rfl) rfl d_M_seed_7 ?_
  refine r_iload_n 2 d_M_seed_10 rfl rfl ?_
  refine r_iret .int d_M_seed_11 rfl rfl ?_
  exact ⟨rfl, rfl⟩
def kpS (v : Int32) : Int32 := if v < 0 then 0 else if 100 < v then 100 else v
set_option maxHeartbeats 400000 in
theorem c_M_kept (v : Int32) (μ : Me) : CtI m_M_kept 0 [.int v] μ (kpS v) μ := by
  refine Ct.of (ls := [.int v]) rfl (Nat.le_of_ble_eq_true rfl) rfl (fun X => ?_)
  refine r_iload_n 0 d_M_kept_0 rfl rfl ?_
  refine r_if_ge d_M_kept_1 (fun h1 => ?_) (fun h1 => ?_)
  · refine r_iload_n 0 d_M_kept_8 rfl rfl ?_
    refine r_bipush (100) d_M_kept_9 (by decide) ?_
    refine r_icmp_le d_M_kept_11 (fun h11 => ?_) (fun h11 => ?_)
    · refine r_iload_n 0 d_M_kept_19 rfl rfl ?_
      refine r_iret .int d_M_kept_20 rfl rfl ?_
      exact ⟨by grind [kpS], rfl⟩
    · refine r_bipush (100) d_M_kept_14 (by decide) ?_
      refine r_goto d_M_kept_16 ?_
      refine r_iret .int d_M_kept_20 rfl rfl ?_
      exact ⟨by grind [kpS], rfl⟩
  · refine r_iconst 0 d_M_kept_4 rfl ?_
    refine r_goto d_M_kept_5 ?_
    refine r_iret .int d_M_kept_20 rfl rfl ?_
    exact ⟨by grind [kpS], rfl⟩
