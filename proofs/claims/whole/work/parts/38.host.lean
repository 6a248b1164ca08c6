/-! SHEETS are the cells 70, 72, 74, 76; SHELVES 78 to 81 -/
theorem isSh_s : ∀ i, i < 4 → isSh (70 + 2 * i) := by
  intro i hi
  rcases (show i = 0 ∨ i = 1 ∨ i = 2 ∨ i = 3 by omega) with rfl | rfl | rfl | rfl <;> exact ⟨rfl, rfl⟩
theorem isSf_s : ∀ i, i < 4 → isSf (78 + 1 * i) := by
  intro i hi
  rcases (show i = 0 ∨ i = 1 ∨ i = 2 ∨ i = 3 by omega) with rfl | rfl | rfl | rfl <;> exact rfl
theorem f4 {s : Int32} (h : 0 ≤ s ∧ s < 4) : ∃ j, j < 4 ∧ s = nI j := by
  rcases pk_ix s (n := 4) (by decide) with z | z | z
  · exact absurd z (Int32.not_lt.mpr h.1)
  · exact absurd h.2 (Int32.not_lt.mpr z)
  · exact z
theorem f4_yes {j : Nat} (h : j < 4) : 0 ≤ nI j ∧ nI j < 4 := ⟨nI_pos' (by omega), nI_lt h (by decide)⟩
set_option maxHeartbeats 400000 in
theorem c_S_sheet_bad {s k n : Int32} (hP : ¬ ((0 ≤ s ∧ s < 4) ∧ -1 ≤ k ∧ k ≤ 3)) (μ : Me) : CtI m_S_sheet 2 [.ref 0, .int s, .int k, .int n] μ (-1) μ := by
  refine Ct.of (ls := [.ref 0, .int s, .int k, .int n]) rfl (Nat.le_of_ble_eq_true rfl) rfl (fun X => ?_)
  refine r_iload_n 1 d_S_sheet_0 rfl rfl ?_
  refine r_callSi (c_S_isSheet _ _) lk_S_313 d_S_sheet_1 rfl rfl (Nat.le_of_ble_eq_true rfl) (by decide) ?_
  refine r_if_eq d_S_sheet_4 (fun h4 => ?_) (fun h4 => ?_)
  · refine r_iconst (-1) d_S_sheet_17 rfl ?_
    refine r_iret .int d_S_sheet_18 rfl rfl ?_
    exact ⟨rfl, rfl⟩
  · refine r_iload_n 2 d_S_sheet_7 rfl rfl ?_
    refine r_iconst (-1) d_S_sheet_8 rfl ?_
    refine r_icmp_lt d_S_sheet_9 (fun h9 => ?_) (fun h9 => ?_)
    · refine r_iconst (-1) d_S_sheet_17 rfl ?_
      refine r_iret .int d_S_sheet_18 rfl rfl ?_
      exact ⟨rfl, rfl⟩
    · refine r_iload_n 2 d_S_sheet_12 rfl rfl ?_
      refine r_iconst 3 d_S_sheet_13 rfl ?_
      refine r_icmp_le d_S_sheet_14 (fun h14 => absurd h14 (fun z => hP ⟨bz_p h4, Int32.not_lt.mp h9, z⟩)) (fun h14 => ?_)
      refine r_iconst (-1) d_S_sheet_17 rfl ?_
      refine r_iret .int d_S_sheet_18 rfl rfl ?_
      exact ⟨rfl, rfl⟩
set_option maxHeartbeats 400000 in
theorem c_S_sheet_lose {j : Nat} (hj : j < 4) (n : Int32) (μ : Me) : CtI m_S_sheet 2 [.ref 0, .int (nI j), .int (-1), .int n] μ 1 (uI (uI μ (70 + 2 * j) 0 (-1)) (70 + 2 * j) 1 0) := by
  refine Ct.of (ls := [.ref 0, .int (nI j), .int (-1), .int n]) rfl (Nat.le_of_ble_eq_true rfl) rfl (fun X => ?_)
  obtain ⟨s0, s1⟩ := isSh_s j hj
  refine r_iload_n 1 d_S_sheet_0 rfl rfl ?_
  refine r_callSi (c_S_isSheet _ _) lk_S_313 d_S_sheet_1 rfl rfl (Nat.le_of_ble_eq_true rfl) (by decide) ?_
  refine r_if_eq d_S_sheet_4 (fun h4 => absurd h4 (fun z => bz_np z (f4_yes hj))) (fun h4 => ?_)
  refine r_iload_n 2 d_S_sheet_7 rfl rfl ?_
  refine r_iconst (-1) d_S_sheet_8 rfl ?_
  refine r_icmp_lt d_S_sheet_9 (fun h9 => absurd h9 (by decide)) (fun h9 => ?_)
  refine r_iload_n 2 d_S_sheet_12 rfl rfl ?_
  refine r_iconst 3 d_S_sheet_13 rfl ?_
  refine r_icmp_le d_S_sheet_14 (fun h14 => ?_) (fun h14 => absurd (by decide) h14)
  refine r_iload_n 2 d_S_sheet_19 rfl rfl ?_
  refine r_iconst (-1) d_S_sheet_20 rfl ?_
  refine r_icmp_ne d_S_sheet_21 (fun h21 => absurd rfl h21) (fun h21 => ?_)
  refine r_aload_n 0 d_S_sheet_24 rfl rfl ?_
  refine r_getR fl_S_74 (by first | with_reducible assumption | rfl) rfl d_S_sheet_25 ?_
  refine r_iload_n 1 d_S_sheet_28 rfl rfl ?_
  refine r_aald4N (by first | with_reducible assumption | rfl) (by decide) (by first | with_reducible assumption | omega | decide | assumption) d_S_sheet_29 ?_
  refine r_callVv (c_Sheet_lose (isSh_s j hj) _) lk_S_335 (by first | with_reducible assumption | rfl) d_S_sheet_30 rfl rfl (Nat.le_of_ble_eq_true rfl) (by decide) ?_
  refine r_iconst 1 d_S_sheet_33 rfl ?_
  refine r_iret .int d_S_sheet_34 rfl rfl ?_
  exact ⟨rfl, rfl⟩
set_option maxHeartbeats 400000 in
theorem c_S_sheet_else {j : Nat} (hj : j < 4) (k n : Int32) (hk : 0 ≤ k ∧ k ≤ 3) (μ : Me) : Ct m_S_sheet 2 [.ref 0, .int (nI j), .int k, .int n] μ (fun r μ' => (40 < n → r = some (.int (-1)) ∧ μ' = μ) ∧ (¬ 40 < n → n < 0 → r = some (.int (-14)) ∧ μ' = μ) ∧ (¬ 40 < n → ¬ n < 0 → r = some (.int 1) ∧ μ' = rL (uI (uI μ (70 + 2 * j) 0 k) (70 + 2 * j) 1 n) (70 + 2 * j + 1) (cutL 40 (fun _ => 0) (μ.2 (70 + 2 * j + 1))))) := by
  refine Ct.of (ls := [.ref 0, .int (nI j), .int k, .int n]) rfl (Nat.le_of_ble_eq_true rfl) rfl (fun X => ?_)
  obtain ⟨s0, s1⟩ := isSh_s j hj
  refine r_iload_n 1 d_S_sheet_0 rfl rfl ?_
  refine r_callSi (c_S_isSheet _ _) lk_S_313 d_S_sheet_1 rfl rfl (Nat.le_of_ble_eq_true rfl) (by decide) ?_
  refine r_if_eq d_S_sheet_4 (fun h4 => absurd h4 (fun z => bz_np z (f4_yes hj))) (fun h4 => ?_)
  refine r_iload_n 2 d_S_sheet_7 rfl rfl ?_
  refine r_iconst (-1) d_S_sheet_8 rfl ?_
  refine r_icmp_lt d_S_sheet_9 (fun h9 => absurd h9 (Int32.not_lt.mpr (Int32.le_trans (by decide) hk.1))) (fun h9 => ?_)
  refine r_iload_n 2 d_S_sheet_12 rfl rfl ?_
  refine r_iconst 3 d_S_sheet_13 rfl ?_
  refine r_icmp_le d_S_sheet_14 (fun h14 => ?_) (fun h14 => absurd hk.2 h14)
  refine r_iload_n 2 d_S_sheet_19 rfl rfl ?_
  refine r_iconst (-1) d_S_sheet_20 rfl ?_
  refine r_icmp_ne d_S_sheet_21 (fun h21 => ?_) (fun h21 => absurd h21 (fun z => by rw [z] at hk; exact absurd hk.1 (by decide)))
  refine r_iload_n 3 d_S_sheet_35 rfl rfl ?_
  refine r_bipush (40) d_S_sheet_36 (by decide) ?_
  refine r_icmp_le d_S_sheet_38 (fun h38 => ?_) (fun h38 => ?_)
  · refine r_iload_n 3 d_S_sheet_43 rfl rfl ?_
    refine r_if_ge d_S_sheet_44 (fun h44 => ?_) (fun h44 => ?_)
    · refine r_aload_n 0 d_S_sheet_50 rfl rfl ?_
      refine r_getR fl_S_74 (by first | with_reducible assumption | rfl) rfl d_S_sheet_51 ?_
      refine r_iload_n 1 d_S_sheet_54 rfl rfl ?_
      refine r_aald4N (by first | with_reducible assumption | rfl) (by decide) (by first | with_reducible assumption | omega | decide | assumption) d_S_sheet_55 ?_
      refine r_iload_n 2 d_S_sheet_56 rfl rfl ?_
      refine r_iload_n 3 d_S_sheet_57 rfl rfl ?_
      refine r_callVv (c_Sheet_become (isSh_s j hj) _ _ _) lk_S_338 (by first | with_reducible assumption | rfl) d_S_sheet_58 rfl rfl (Nat.le_of_ble_eq_true rfl) (by decide) ?_
      refine r_iconst 1 d_S_sheet_61 rfl ?_
      refine r_iret .int d_S_sheet_62 rfl rfl ?_
      exact ⟨fun z => absurd h38 (Int32.not_le.mpr z), fun _ z => absurd h44 (Int32.not_le.mpr z), fun _ _ => ⟨rfl, rfl⟩⟩
    · refine r_bipush (-14) d_S_sheet_47 (by decide) ?_
      refine r_iret .int d_S_sheet_49 rfl rfl ?_
      exact ⟨fun z => absurd h38 (Int32.not_le.mpr z), fun _ _ => ⟨rfl, rfl⟩, fun _ z => absurd (Int32.not_le.mp h44) z⟩
  · refine r_iconst (-1) d_S_sheet_41 rfl ?_
    refine r_iret .int d_S_sheet_42 rfl rfl ?_
    exact ⟨fun _ => ⟨rfl, rfl⟩, fun z => absurd (Int32.not_le.mp h38) z, fun z => absurd (Int32.not_le.mp h38) z⟩
set_option maxHeartbeats 400000 in
theorem c_S_put_bad {s : Int32} (i v : Int32) (hP : ¬ (0 ≤ s ∧ s < 4)) (μ : Me) : CtI m_S_put 2 [.ref 0, .int s, .int i, .int v] μ (-1) μ := by
  refine Ct.of (ls := [.ref 0, .int s, .int i, .int v, flr]) rfl (Nat.le_of_ble_eq_true rfl) rfl (fun X => ?_)
  refine r_iload_n 1 d_S_put_0 rfl rfl ?_
  refine r_callSi (c_S_isSheet _ _) lk_S_313 d_S_put_1 rfl rfl (Nat.le_of_ble_eq_true rfl) (by decide) ?_
  refine r_if_ne d_S_put_4 (fun h4 => absurd (bz_0.mpr hP) h4) (fun h4 => ?_)
  refine r_iconst (-1) d_S_put_7 rfl ?_
  refine r_iret .int d_S_put_8 rfl rfl ?_
  exact ⟨rfl, rfl⟩
set_option maxHeartbeats 400000 in
theorem c_S_put {j n : Nat} (hj : j < 4) (hn : n ≤ 40) (i v : Int32) (μ : Me) (hct : μ.1 (70 + 2 * j) 1 = nI n) : Ct m_S_put 2 [.ref 0, .int (nI j), .int i, .int v] μ (fun r μ' => (μ.1 (70 + 2 * j) 0 = -1 → r = some (.int (-11)) ∧ μ' = μ) ∧ (¬ μ.1 (70 + 2 * j) 0 = -1 → ¬ (0 ≤ i ∧ i < nI n) → r = some (.int (-12)) ∧ μ' = μ) ∧ (¬ μ.1 (70 + 2 * j) 0 = -1 → (0 ≤ i ∧ i < nI n) → r = some (.int 1) ∧ μ' = uL μ (70 + 2 * j + 1) i.toNatClampNeg (narS (μ.1 (70 + 2 * j) 0) v))) := by
  refine Ct.of (ls := [.ref 0, .int (nI j), .int i, .int v, flr]) rfl (Nat.le_of_ble_eq_true rfl) rfl (fun X => ?_)
  obtain ⟨s0, s1⟩ := isSh_s j hj
  refine r_iload_n 1 d_S_put_0 rfl rfl ?_
  refine r_callSi (c_S_isSheet _ _) lk_S_313 d_S_put_1 rfl rfl (Nat.le_of_ble_eq_true rfl) (by decide) ?_
  refine r_if_ne d_S_put_4 (fun h4 => ?_) (fun h4 => absurd h4 (fun z => bz_np z (f4_yes hj)))
  refine r_aload_n 0 d_S_put_9 rfl rfl ?_
  refine r_getR fl_S_74 (by first | with_reducible assumption | rfl) rfl d_S_put_10 ?_
  refine r_iload_n 1 d_S_put_13 rfl rfl ?_
  refine r_aald4N (by first | with_reducible assumption | rfl) (by decide) (by first | with_reducible assumption | omega | decide | assumption) d_S_put_14 ?_
  refine r_astore 4 [_, _, _, _, _] d_S_put_15 (by decide) rfl ?_
  refine r_aload 4 d_S_put_17 rfl ?_
  refine r_callVi (c_Sheet_isMissing (isSh_s j hj) _) lk_S_316 (by first | with_reducible assumption | rfl) d_S_put_19 rfl rfl (Nat.le_of_ble_eq_true rfl) (by decide) ?_
  refine r_if_eq d_S_put_22 (fun h22 => ?_) (fun h22 => ?_)
  · refine r_iload_n 2 d_S_put_28 rfl rfl ?_
    refine r_if_lt d_S_put_29 (fun h29 => ?_) (fun h29 => ?_)
    · refine r_bipush (-12) d_S_put_41 (by decide) ?_
      refine r_iret .int d_S_put_43 rfl rfl ?_
      refine ⟨fun z => absurd z (bz_np h22), fun _ _ => ⟨rfl, rfl⟩, fun _ z => ?_⟩
      first
        | exact absurd z.1 (Int32.not_le.mpr h29)
        | exact absurd z.2 (by rw [← hct]; exact h38)
    · refine r_iload_n 2 d_S_put_32 rfl rfl ?_
      refine r_aload 4 d_S_put_33 rfl ?_
      refine r_getI fl_S_322 (by first | with_reducible assumption | rfl) rfl d_S_put_35 ?_
      refine r_icmp_lt d_S_put_38 (fun h38 => ?_) (fun h38 => ?_)
      · have hI : 0 ≤ i ∧ i < nI n := ⟨Int32.not_lt.mp h29, by rw [← hct]; exact h38⟩
        obtain ⟨zq, zhq, rfl⟩ : ∃ j, j < n ∧ i = nI j := by
          rcases pk_ix i (n := n) (by omega) with z | z | z
          · exact absurd z (Int32.not_lt.mpr hI.1)
          · exact absurd hI.2 (Int32.not_lt.mpr z)
          · exact z
        have hcp := cl36 zhq (show n ≤ 1000 by omega)
        refine r_aload 4 d_S_put_44 rfl ?_
        refine r_getR fl_S_323 (by first | with_reducible assumption | rfl) rfl d_S_put_46 ?_
        refine r_iload_n 2 d_S_put_49 rfl rfl ?_
        refine r_aload 4 d_S_put_50 rfl ?_
        refine r_iload_n 3 d_S_put_52 rfl rfl ?_
        refine r_callVl (c_Sheet_narrowed (isSh_s j hj) _ _) lk_S_341 (by first | with_reducible assumption | rfl) d_S_put_53 rfl rfl (Nat.le_of_ble_eq_true rfl) (by decide) ?_
        refine r_lastN (by first | with_reducible assumption | rfl) (by first | with_reducible assumption | omega | decide | assumption) d_S_put_56 ?_
        refine r_iconst 1 d_S_put_57 rfl ?_
        refine r_iret .int d_S_put_58 rfl rfl ?_
        rw [hcp]
        exact ⟨fun z => absurd z (bz_np h22), fun _ z => absurd hI z, fun _ _ => ⟨rfl, rfl⟩⟩
      · refine r_bipush (-12) d_S_put_41 (by decide) ?_
        refine r_iret .int d_S_put_43 rfl rfl ?_
        refine ⟨fun z => absurd z (bz_np h22), fun _ _ => ⟨rfl, rfl⟩, fun _ z => ?_⟩
        first
          | exact absurd z.1 (Int32.not_le.mpr h29)
          | exact absurd z.2 (by rw [← hct]; exact h38)
  · refine r_bipush (-11) d_S_put_25 (by decide) ?_
    refine r_iret .int d_S_put_27 rfl rfl ?_
    exact ⟨fun _ => ⟨rfl, rfl⟩, fun z => absurd (bz_p h22) z, fun z => absurd (bz_p h22) z⟩
set_option maxHeartbeats 400000 in
theorem c_S_number_bad {s k : Int32} (i : Int32) (hP : ¬ ((0 ≤ s ∧ s < 4) ∧ 0 ≤ k ∧ k ≤ 3)) (μ : Me) : CtI m_S_number 2 [.ref 0, .int s, .int k, .int i] μ (-1) μ := by
  refine Ct.of (ls := [.ref 0, .int s, .int k, .int i, flr]) rfl (Nat.le_of_ble_eq_true rfl) rfl (fun X => ?_)
  refine r_iload_n 1 d_S_number_0 rfl rfl ?_
  refine r_callSi (c_S_isSheet _ _) lk_S_313 d_S_number_1 rfl rfl (Nat.le_of_ble_eq_true rfl) (by decide) ?_
  refine r_if_eq d_S_number_4 (fun h4 => ?_) (fun h4 => ?_)
  · refine r_iconst (-1) d_S_number_15 rfl ?_
    refine r_iret .int d_S_number_16 rfl rfl ?_
    exact ⟨rfl, rfl⟩
  · refine r_iload_n 2 d_S_number_7 rfl rfl ?_
    refine r_iconst 3 d_S_number_8 rfl ?_
    refine r_callSi (c_S_isWithin _ _ _) lk_S_118 d_S_number_9 rfl rfl (Nat.le_of_ble_eq_true rfl) (by decide) ?_
    refine r_if_ne d_S_number_12 (fun h12 => absurd (bz_0.mpr (fun z => hP ⟨bz_p h4, z⟩)) h12) (fun h12 => ?_)
    refine r_iconst (-1) d_S_number_15 rfl ?_
    refine r_iret .int d_S_number_16 rfl rfl ?_
    exact ⟨rfl, rfl⟩
def numS (s len : Int32) (g : Nat → Int64) (k i : Int32) : Int32 := if s = -1 then -11 else if s = k then (if 0 ≤ i ∧ i < len then (g i.toNatClampNeg).toInt32 else -12) else -13
set_option maxHeartbeats 400000 in
theorem c_S_number {j n : Nat} (hj : j < 4) (hn : n ≤ 40) (k i : Int32) (hk : 0 ≤ k ∧ k ≤ 3) (μ : Me) (hct : μ.1 (70 + 2 * j) 1 = nI n) : CtI m_S_number 2 [.ref 0, .int (nI j), .int k, .int i] μ (numS (μ.1 (70 + 2 * j) 0) (nI n) (μ.2 (70 + 2 * j + 1)) k i) μ := by
  refine Ct.of (ls := [.ref 0, .int (nI j), .int k, .int i, flr]) rfl (Nat.le_of_ble_eq_true rfl) rfl (fun X => ?_)
  obtain ⟨s0, s1⟩ := isSh_s j hj
  refine r_iload_n 1 d_S_number_0 rfl rfl ?_
  refine r_callSi (c_S_isSheet _ _) lk_S_313 d_S_number_1 rfl rfl (Nat.le_of_ble_eq_true rfl) (by decide) ?_
  refine r_if_eq d_S_number_4 (fun h4 => absurd h4 (fun z => bz_np z (f4_yes hj))) (fun h4 => ?_)
  refine r_iload_n 2 d_S_number_7 rfl rfl ?_
  refine r_iconst 3 d_S_number_8 rfl ?_
  refine r_callSi (c_S_isWithin _ _ _) lk_S_118 d_S_number_9 rfl rfl (Nat.le_of_ble_eq_true rfl) (by decide) ?_
  refine r_if_ne d_S_number_12 (fun h12 => ?_) (fun h12 => absurd h12 (fun z => bz_np z hk))
  refine r_aload_n 0 d_S_number_17 rfl rfl ?_
  refine r_getR fl_S_74 (by first | with_reducible assumption | rfl) rfl d_S_number_18 ?_
  refine r_iload_n 1 d_S_number_21 rfl rfl ?_
  refine r_aald4N (by first | with_reducible assumption | rfl) (by decide) (by first | with_reducible assumption | omega | decide | assumption) d_S_number_22 ?_
  refine r_astore 4 [_, _, _, _, _] d_S_number_23 (by decide) rfl ?_
  refine r_aload 4 d_S_number_25 rfl ?_
  refine r_callVi (c_Sheet_isMissing (isSh_s j hj) _) lk_S_316 (by first | with_reducible assumption | rfl) d_S_number_27 rfl rfl (Nat.le_of_ble_eq_true rfl) (by decide) ?_
  refine r_if_eq d_S_number_30 (fun h30 => ?_) (fun h30 => ?_)
  · refine r_aload 4 d_S_number_36 rfl ?_
    refine r_getI fl_S_319 (by first | with_reducible assumption | rfl) rfl d_S_number_38 ?_
    refine r_iload_n 2 d_S_number_41 rfl rfl ?_
    refine r_icmp_eq d_S_number_42 (fun h42 => ?_) (fun h42 => ?_)
    · refine r_iload_n 3 d_S_number_48 rfl rfl ?_
      refine r_if_lt d_S_number_49 (fun h49 => ?_) (fun h49 => ?_)
      · refine r_bipush (-12) d_S_number_61 (by decide) ?_
        refine r_iret .int d_S_number_63 rfl rfl ?_
        refine ⟨?_, rfl⟩
        rw [numS, if_neg (bz_np h30), if_pos h42, if_neg]
        intro z
        first
          | exact absurd z.1 (Int32.not_le.mpr h49)
          | exact absurd z.2 (by rw [← hct]; exact h58)
      · refine r_iload_n 3 d_S_number_52 rfl rfl ?_
        refine r_aload 4 d_S_number_53 rfl ?_
        refine r_getI fl_S_322 (by first | with_reducible assumption | rfl) rfl d_S_number_55 ?_
        refine r_icmp_lt d_S_number_58 (fun h58 => ?_) (fun h58 => ?_)
        · have hI : 0 ≤ i ∧ i < nI n := ⟨Int32.not_lt.mp h49, by rw [← hct]; exact h58⟩
          obtain ⟨zq, zhq, rfl⟩ : ∃ j, j < n ∧ i = nI j := by
            rcases pk_ix i (n := n) (by omega) with z | z | z
            · exact absurd z (Int32.not_lt.mpr hI.1)
            · exact absurd hI.2 (Int32.not_lt.mpr z)
            · exact z
          have hcp := cl36 zhq (show n ≤ 1000 by omega)
          refine r_aload 4 d_S_number_64 rfl ?_
          refine r_getR fl_S_323 (by first | with_reducible assumption | rfl) rfl d_S_number_66 ?_
          refine r_iload_n 3 d_S_number_69 rfl rfl ?_
          refine r_laldN (by first | with_reducible assumption | rfl) (by first | with_reducible assumption | omega | decide | assumption) d_S_number_70 ?_
          refine r_l2i d_S_number_71 ?_
          refine r_iret .int d_S_number_72 rfl rfl ?_
          exact ⟨by rw [numS, if_neg (bz_np h30), if_pos h42, if_pos hI, hcp], rfl⟩
        · refine r_bipush (-12) d_S_number_61 (by decide) ?_
          refine r_iret .int d_S_number_63 rfl rfl ?_
          refine ⟨?_, rfl⟩
          rw [numS, if_neg (bz_np h30), if_pos h42, if_neg]
          intro z
          first
            | exact absurd z.1 (Int32.not_le.mpr h49)
            | exact absurd z.2 (by rw [← hct]; exact h58)
    · refine r_bipush (-13) d_S_number_45 (by decide) ?_
      refine r_iret .int d_S_number_47 rfl rfl ?_
      exact ⟨by rw [numS, if_neg (bz_np h30), if_neg h42], rfl⟩
  · refine r_bipush (-11) d_S_number_33 (by decide) ?_
    refine r_iret .int d_S_number_35 rfl rfl ?_
    exact ⟨by rw [numS, if_pos (bz_p h30)], rfl⟩
set_option maxHeartbeats 400000 in
theorem c_S_shelf_bad {m : Nat} (hm : m ≤ 4) (s w n : Int32) (μ : Me) (hct : μ.1 1 1 = nI m) (hP : ¬ ((0 ≤ s ∧ s < 4) ∧ ((w = 0 ∧ 0 ≤ n ∧ n < nI m) ∨ (w = 1 ∧ 0 ≤ n ∧ n < 4) ∨ w = 2))) : CtI m_S_shelf 2 [.ref 0, .int s, .int w, .int n] μ (-1) μ := by
  refine Ct.of (ls := [.ref 0, .int s, .int w, .int n]) rfl (Nat.le_of_ble_eq_true rfl) rfl (fun X => ?_)
  refine r_iload_n 1 d_S_shelf_0 rfl rfl ?_
  refine r_callSi (c_S_isShelf _ _) lk_S_345 d_S_shelf_1 rfl rfl (Nat.le_of_ble_eq_true rfl) (by decide) ?_
  refine r_if_ne d_S_shelf_4 (fun h4 => ?_) (fun h4 => ?_)
  · refine r_iload_n 2 d_S_shelf_9 rfl rfl ?_
    refine r_ts d_S_shelf_10 (List.forall_mem_cons.mpr ⟨fun h10 => ?_, List.forall_mem_cons.mpr ⟨fun h10 => ?_, List.forall_mem_cons.mpr ⟨fun h10 => ?_, fun _ h => absurd h List.not_mem_nil⟩⟩⟩) (fun h10 => ?_)
    · have hno := lr_no (l := n) (x := nI m) (fun z => hP ⟨bz_p h4, Or.inl ⟨h10, z⟩⟩)
      rw [← hct] at hno
      refine r_aload_n 0 d_S_shelf_36 rfl rfl ?_
      refine r_getR fl_S_12 (by first | with_reducible assumption | rfl) rfl d_S_shelf_37 ?_
      refine r_iload_n 3 d_S_shelf_40 rfl rfl ?_
      refine r_callVa (c_School_learnerAt_no _ _ hno) lk_S_127 (by first | with_reducible assumption | rfl) d_S_shelf_41 rfl rfl (Nat.le_of_ble_eq_true rfl) (by decide) ?_
      refine r_ifnonnullN d_S_shelf_44 ?_
      refine r_iconst (-1) d_S_shelf_47 rfl ?_
      refine r_iret .int d_S_shelf_48 rfl rfl ?_
      exact ⟨rfl, rfl⟩
    · refine r_iload_n 3 d_S_shelf_61 rfl rfl ?_
      refine r_callSi (c_S_isSheet _ _) lk_S_313 d_S_shelf_62 rfl rfl (Nat.le_of_ble_eq_true rfl) (by decide) ?_
      refine r_if_ne d_S_shelf_65 (fun h65 => absurd (bz_0.mpr (fun z => hP ⟨bz_p h4, Or.inr (Or.inl ⟨h10, z⟩)⟩)) h65) (fun h65 => ?_)
      refine r_iconst (-1) d_S_shelf_68 rfl ?_
      refine r_iret .int d_S_shelf_69 rfl rfl ?_
      exact ⟨rfl, rfl⟩
    · exact absurd ⟨bz_p h4, Or.inr (Or.inr h10)⟩ hP
    · refine r_iconst (-1) d_S_shelf_98 rfl ?_
      refine r_iret .int d_S_shelf_99 rfl rfl ?_
      exact ⟨rfl, rfl⟩
  · refine r_iconst (-1) d_S_shelf_7 rfl ?_
    refine r_iret .int d_S_shelf_8 rfl rfl ?_
    exact ⟨rfl, rfl⟩
set_option maxHeartbeats 400000 in
theorem c_S_shelf_0 {j m q : Nat} (hj : j < 4) (hm : m ≤ 4) (hq : q < m) (μ : Me) (hct : μ.1 1 1 = nI m) : CtI m_S_shelf 2 [.ref 0, .int (nI j), .int 0, .int (nI q)] μ 1 (uI (noM μ (78 + 1 * j)) (78 + 1 * j) 0 (nI q)) := by
  refine Ct.of (ls := [.ref 0, .int (nI j), .int 0, .int (nI q)]) rfl (Nat.le_of_ble_eq_true rfl) rfl (fun X => ?_)
  have s0 : shp[78 + 1 * j]? = some (.inl (8, [0, 0, 0])) := isSf_s j hj
  refine r_iload_n 1 d_S_shelf_0 rfl rfl ?_
  refine r_callSi (c_S_isShelf _ _) lk_S_345 d_S_shelf_1 rfl rfl (Nat.le_of_ble_eq_true rfl) (by decide) ?_
  refine r_if_ne d_S_shelf_4 (fun h4 => ?_) (fun h4 => absurd h4 (fun z => bz_np z (f4_yes hj)))
  refine r_iload_n 2 d_S_shelf_9 rfl rfl ?_
  refine r_ts d_S_shelf_10 (List.forall_mem_cons.mpr ⟨fun h10 => ?_, List.forall_mem_cons.mpr ⟨fun h10 => ?_, List.forall_mem_cons.mpr ⟨fun h10 => ?_, fun _ h => absurd h List.not_mem_nil⟩⟩⟩) (fun h10 => ?_)
  · refine r_aload_n 0 d_S_shelf_36 rfl rfl ?_
    refine r_getR fl_S_12 (by first | with_reducible assumption | rfl) rfl d_S_shelf_37 ?_
    refine r_iload_n 3 d_S_shelf_40 rfl rfl ?_
    refine r_callVa (c_School_learnerAt_yes q m hq hm _ hct) lk_S_127 (by first | with_reducible assumption | rfl) d_S_shelf_41 rfl rfl (Nat.le_of_ble_eq_true rfl) (by decide) ?_
    refine r_ifnonnull d_S_shelf_44 ?_
    refine r_aload_n 0 d_S_shelf_49 rfl rfl ?_
    refine r_getR fl_S_80 (by first | with_reducible assumption | rfl) rfl d_S_shelf_50 ?_
    refine r_iload_n 1 d_S_shelf_53 rfl rfl ?_
    refine r_aald5N (by first | with_reducible assumption | rfl) (by decide) (by first | with_reducible assumption | omega | decide | assumption) d_S_shelf_54 ?_
    refine r_iload_n 3 d_S_shelf_55 rfl rfl ?_
    refine r_callVv (c_Shelf_holdLearner (isSf_s j hj) _ _) lk_S_348 (by first | with_reducible assumption | rfl) d_S_shelf_56 rfl rfl (Nat.le_of_ble_eq_true rfl) (by decide) ?_
    refine r_iconst 1 d_S_shelf_59 rfl ?_
    refine r_iret .int d_S_shelf_60 rfl rfl ?_
    exact ⟨rfl, rfl⟩
  · exact absurd h10 (by decide)
  · exact absurd h10 (by decide)
  · exact absurd rfl (h10 (0, 36) (by simp))
set_option maxHeartbeats 400000 in
theorem c_S_shelf_1 {j q : Nat} (hj : j < 4) (hq : q < 4) (μ : Me) : CtI m_S_shelf 2 [.ref 0, .int (nI j), .int 1, .int (nI q)] μ 1 (uI (uI (uI μ (78 + 1 * j) 0 (-9)) (78 + 1 * j) 1 (μ.1 (70 + 2 * q) 0)) (78 + 1 * j) 2 (μ.1 (70 + 2 * q) 1)) := by
  refine Ct.of (ls := [.ref 0, .int (nI j), .int 1, .int (nI q)]) rfl (Nat.le_of_ble_eq_true rfl) rfl (fun X => ?_)
  have s0 : shp[78 + 1 * j]? = some (.inl (8, [0, 0, 0])) := isSf_s j hj
  refine r_iload_n 1 d_S_shelf_0 rfl rfl ?_
  refine r_callSi (c_S_isShelf _ _) lk_S_345 d_S_shelf_1 rfl rfl (Nat.le_of_ble_eq_true rfl) (by decide) ?_
  refine r_if_ne d_S_shelf_4 (fun h4 => ?_) (fun h4 => absurd h4 (fun z => bz_np z (f4_yes hj)))
  refine r_iload_n 2 d_S_shelf_9 rfl rfl ?_
  refine r_ts d_S_shelf_10 (List.forall_mem_cons.mpr ⟨fun h10 => ?_, List.forall_mem_cons.mpr ⟨fun h10 => ?_, List.forall_mem_cons.mpr ⟨fun h10 => ?_, fun _ h => absurd h List.not_mem_nil⟩⟩⟩) (fun h10 => ?_)
  · exact absurd h10 (by decide)
  · refine r_iload_n 3 d_S_shelf_61 rfl rfl ?_
    refine r_callSi (c_S_isSheet _ _) lk_S_313 d_S_shelf_62 rfl rfl (Nat.le_of_ble_eq_true rfl) (by decide) ?_
    refine r_if_ne d_S_shelf_65 (fun h65 => ?_) (fun h65 => absurd h65 (fun z => bz_np z (f4_yes hq)))
    refine r_aload_n 0 d_S_shelf_70 rfl rfl ?_
    refine r_getR fl_S_80 (by first | with_reducible assumption | rfl) rfl d_S_shelf_71 ?_
    refine r_iload_n 1 d_S_shelf_74 rfl rfl ?_
    refine r_aald5N (by first | with_reducible assumption | rfl) (by decide) (by first | with_reducible assumption | omega | decide | assumption) d_S_shelf_75 ?_
    refine r_aload_n 0 d_S_shelf_76 rfl rfl ?_
    refine r_getR fl_S_74 (by first | with_reducible assumption | rfl) rfl d_S_shelf_77 ?_
    refine r_iload_n 3 d_S_shelf_80 rfl rfl ?_
    refine r_aald4N (by first | with_reducible assumption | rfl) (by decide) (by first | with_reducible assumption | omega | decide | assumption) d_S_shelf_81 ?_
    refine r_callVv (c_Shelf_holdRow (isSf_s j hj) (isSh_s q hq) (by omega) _) lk_S_351 (by first | with_reducible assumption | rfl) d_S_shelf_82 rfl rfl (Nat.le_of_ble_eq_true rfl) (by decide) ?_
    refine r_iconst 1 d_S_shelf_85 rfl ?_
    refine r_iret .int d_S_shelf_86 rfl rfl ?_
    exact ⟨rfl, rfl⟩
  · exact absurd h10 (by decide)
  · exact absurd rfl (h10 (1, 61) (by simp))
set_option maxHeartbeats 400000 in
theorem c_S_shelf_2 {j : Nat} (hj : j < 4) (n : Int32) (μ : Me) : CtI m_S_shelf 2 [.ref 0, .int (nI j), .int 2, .int n] μ 1 (noM μ (78 + 1 * j)) := by
  refine Ct.of (ls := [.ref 0, .int (nI j), .int 2, .int n]) rfl (Nat.le_of_ble_eq_true rfl) rfl (fun X => ?_)
  have s0 : shp[78 + 1 * j]? = some (.inl (8, [0, 0, 0])) := isSf_s j hj
  refine r_iload_n 1 d_S_shelf_0 rfl rfl ?_
  refine r_callSi (c_S_isShelf _ _) lk_S_345 d_S_shelf_1 rfl rfl (Nat.le_of_ble_eq_true rfl) (by decide) ?_
  refine r_if_ne d_S_shelf_4 (fun h4 => ?_) (fun h4 => absurd h4 (fun z => bz_np z (f4_yes hj)))
  refine r_iload_n 2 d_S_shelf_9 rfl rfl ?_
  refine r_ts d_S_shelf_10 (List.forall_mem_cons.mpr ⟨fun h10 => ?_, List.forall_mem_cons.mpr ⟨fun h10 => ?_, List.forall_mem_cons.mpr ⟨fun h10 => ?_, fun _ h => absurd h List.not_mem_nil⟩⟩⟩) (fun h10 => ?_)
  · exact absurd h10 (by decide)
  · exact absurd h10 (by decide)
  · refine r_aload_n 0 d_S_shelf_87 rfl rfl ?_
    refine r_getR fl_S_80 (by first | with_reducible assumption | rfl) rfl d_S_shelf_88 ?_
    refine r_iload_n 1 d_S_shelf_91 rfl rfl ?_
    refine r_aald5N (by first | with_reducible assumption | rfl) (by decide) (by first | with_reducible assumption | omega | decide | assumption) d_S_shelf_92 ?_
    refine r_callVv (c_Shelf_holdNothing (isSf_s j hj) _) lk_S_355 (by first | with_reducible assumption | rfl) d_S_shelf_93 rfl rfl (Nat.le_of_ble_eq_true rfl) (by decide) ?_
    refine r_iconst 1 d_S_shelf_96 rfl ?_
    refine r_iret .int d_S_shelf_97 rfl rfl ?_
    exact ⟨rfl, rfl⟩
  · exact absurd rfl (h10 (2, 87) (by simp))
