-- a SHELF with no row: a LEARNER, or nothing
set_option maxHeartbeats 400000 in
theorem c_S_taken_none {j m : Nat} (hj : j < 4) (a : Int32) (ha : isAs a) (μ : Me) (hct : μ.1 1 1 = nI m) (hr : μ.1 (78 + 1 * j) 1 = -1) (hl : ¬ (0 ≤ μ.1 (78 + 1 * j) 0 ∧ μ.1 (78 + 1 * j) 0 < nI m)) : CtI m_S_taken 1 [.ref 0, .int (nI j), .int a] μ (-11) μ := by
  refine Ct.of (ls := [.ref 0, .int (nI j), .int a, flr, flr, flr, flr]) rfl (Nat.le_of_ble_eq_true rfl) rfl (fun X => ?_)
  have s0 : shp[78 + 1 * j]? = some (.inl (8, [0, 0, 0])) := isSf_s j hj
  have hno := lr_no hl
  rw [← hct] at hno
  have key : ∀ u v : Int32, (u = 0 → ¬ (0 ≤ a ∧ a < 6)) → (v = 0 ↔ ¬ (10 ≤ a ∧ a ≤ 13)) → Wa X m_S_taken 1 35 [.ref 0, .int (nI j), .int a, .int u, .int v, flr, flr] [] μ (fun r μ' => r = some (.int (-11)) ∧ μ' = μ) := by
    intro u v hu hv
    have k53 : Wa X m_S_taken 1 53 [.ref 0, .int (nI j), .int a, .int u, .int v, flr, flr] [] μ (fun r μ' => r = some (.int (-11)) ∧ μ' = μ) := by
      refine r_aload_n 0 d_S_taken_53 rfl rfl ?_
      refine r_getR fl_S_80 (by first | with_reducible assumption | rfl) rfl d_S_taken_54 ?_
      refine r_iload_n 1 d_S_taken_57 rfl rfl ?_
      refine r_aald5N (by first | with_reducible assumption | rfl) (by decide) (by first | with_reducible assumption | omega | decide | assumption) d_S_taken_58 ?_
      refine r_astore 5 [_, _, _, _, _, _, _] d_S_taken_59 (by decide) rfl ?_
      refine r_aload 5 d_S_taken_61 rfl ?_
      refine r_callVi (c_Shelf_holdsRow (isSf_s j hj) _) lk_S_358 (by first | with_reducible assumption | rfl) d_S_taken_63 rfl rfl (Nat.le_of_ble_eq_true rfl) (by decide) ?_
      refine r_if_eq d_S_taken_66 (fun h66 => ?_) (fun h66 => absurd (bz_0.mpr (fun z => z hr)) h66)
      refine r_aload_n 0 d_S_taken_97 rfl rfl ?_
      refine r_getR fl_S_12 (by first | with_reducible assumption | rfl) rfl d_S_taken_98 ?_
      refine r_aload 5 d_S_taken_101 rfl ?_
      refine r_getI fl_S_363 (by first | with_reducible assumption | rfl) rfl d_S_taken_103 ?_
      refine r_callVa (c_School_learnerAt_no _ _ hno) lk_S_127 (by first | with_reducible assumption | rfl) d_S_taken_106 rfl rfl (Nat.le_of_ble_eq_true rfl) (by decide) ?_
      refine r_astoreN 6 [_, _, _, _, _, _, _] d_S_taken_109 (by decide) rfl ?_
      refine r_aloadN 6 d_S_taken_111 rfl ?_
      refine r_ifnonnullN d_S_taken_113 ?_
      refine r_bipush (-11) d_S_taken_116 (by decide) ?_
      refine r_iret .int d_S_taken_118 rfl rfl ?_
      exact ⟨rfl, rfl⟩
    refine r_iload_n 1 d_S_taken_35 rfl rfl ?_
    refine r_callSi (c_S_isShelf _ _) lk_S_345 d_S_taken_36 rfl rfl (Nat.le_of_ble_eq_true rfl) (by decide) ?_
    refine r_if_eq d_S_taken_39 (fun h39 => absurd h39 (fun z => bz_np z (f4_yes hj))) (fun h39 => ?_)
    refine r_iload_n 3 d_S_taken_42 rfl rfl ?_
    refine r_if_ne d_S_taken_43 (fun h43 => ?_) (fun h43 => ?_)
    · exact k53
    · refine r_iload 4 d_S_taken_46 rfl ?_
      refine r_if_ne d_S_taken_48 (fun h48 => ?_) (fun h48 => ?_)
      · exact k53
      · exact absurd ha (fun z => z.elim (hu h43) (hv.mp h48))
  refine r_iload_n 2 d_S_taken_0 rfl rfl ?_
  refine r_if_lt d_S_taken_1 (fun h1 => ?_) (fun h1 => ?_)
  · refine r_iconst 0 d_S_taken_14 rfl ?_
    refine r_istore_n 3 [_, _, _, _, _, _, _] d_S_taken_15 rfl (by decide) rfl ?_
    refine r_iload_n 2 d_S_taken_16 rfl rfl ?_
    refine r_bipush (10) d_S_taken_17 (by decide) ?_
    refine r_icmp_lt d_S_taken_19 (fun h19 => ?_) (fun h19 => ?_)
    · refine r_iconst 0 d_S_taken_32 rfl ?_
      refine r_istore 4 [_, _, _, _, _, _, _] d_S_taken_33 (by decide) rfl ?_
      refine key _ _ ?_ ?_
      all_goals first
        | exact fun z => absurd z (by decide)
        | exact ⟨fun z => absurd z (by decide), fun z => absurd ⟨Int32.not_lt.mp h19, Int32.not_lt.mp h25⟩ z⟩
        | exact ⟨fun _ z => absurd z.1 (Int32.not_le.mpr h19), fun _ => rfl⟩
        | exact ⟨fun _ z => absurd z.2 (Int32.not_le.mpr h25), fun _ => rfl⟩
        | exact fun _ z => absurd z.1 (Int32.not_le.mpr h1)
        | exact fun _ z => absurd z.2 (Int32.not_lt.mpr h7)
    · refine r_iload_n 2 d_S_taken_22 rfl rfl ?_
      refine r_bipush (13) d_S_taken_23 (by decide) ?_
      refine r_icmp_gt d_S_taken_25 (fun h25 => ?_) (fun h25 => ?_)
      · refine r_iconst 0 d_S_taken_32 rfl ?_
        refine r_istore 4 [_, _, _, _, _, _, _] d_S_taken_33 (by decide) rfl ?_
        refine key _ _ ?_ ?_
        all_goals first
          | exact fun z => absurd z (by decide)
          | exact ⟨fun z => absurd z (by decide), fun z => absurd ⟨Int32.not_lt.mp h19, Int32.not_lt.mp h25⟩ z⟩
          | exact ⟨fun _ z => absurd z.1 (Int32.not_le.mpr h19), fun _ => rfl⟩
          | exact ⟨fun _ z => absurd z.2 (Int32.not_le.mpr h25), fun _ => rfl⟩
          | exact fun _ z => absurd z.1 (Int32.not_le.mpr h1)
          | exact fun _ z => absurd z.2 (Int32.not_lt.mpr h7)
      · refine r_iconst 1 d_S_taken_28 rfl ?_
        refine r_goto d_S_taken_29 ?_
        refine r_istore 4 [_, _, _, _, _, _, _] d_S_taken_33 (by decide) rfl ?_
        refine key _ _ ?_ ?_
        all_goals first
          | exact fun z => absurd z (by decide)
          | exact ⟨fun z => absurd z (by decide), fun z => absurd ⟨Int32.not_lt.mp h19, Int32.not_lt.mp h25⟩ z⟩
          | exact ⟨fun _ z => absurd z.1 (Int32.not_le.mpr h19), fun _ => rfl⟩
          | exact ⟨fun _ z => absurd z.2 (Int32.not_le.mpr h25), fun _ => rfl⟩
          | exact fun _ z => absurd z.1 (Int32.not_le.mpr h1)
          | exact fun _ z => absurd z.2 (Int32.not_lt.mpr h7)
  · refine r_iload_n 2 d_S_taken_4 rfl rfl ?_
    refine r_bipush (6) d_S_taken_5 (by decide) ?_
    refine r_icmp_ge d_S_taken_7 (fun h7 => ?_) (fun h7 => ?_)
    · refine r_iconst 0 d_S_taken_14 rfl ?_
      refine r_istore_n 3 [_, _, _, _, _, _, _] d_S_taken_15 rfl (by decide) rfl ?_
      refine r_iload_n 2 d_S_taken_16 rfl rfl ?_
      refine r_bipush (10) d_S_taken_17 (by decide) ?_
      refine r_icmp_lt d_S_taken_19 (fun h19 => ?_) (fun h19 => ?_)
      · refine r_iconst 0 d_S_taken_32 rfl ?_
        refine r_istore 4 [_, _, _, _, _, _, _] d_S_taken_33 (by decide) rfl ?_
        refine key _ _ ?_ ?_
        all_goals first
          | exact fun z => absurd z (by decide)
          | exact ⟨fun z => absurd z (by decide), fun z => absurd ⟨Int32.not_lt.mp h19, Int32.not_lt.mp h25⟩ z⟩
          | exact ⟨fun _ z => absurd z.1 (Int32.not_le.mpr h19), fun _ => rfl⟩
          | exact ⟨fun _ z => absurd z.2 (Int32.not_le.mpr h25), fun _ => rfl⟩
          | exact fun _ z => absurd z.1 (Int32.not_le.mpr h1)
          | exact fun _ z => absurd z.2 (Int32.not_lt.mpr h7)
      · refine r_iload_n 2 d_S_taken_22 rfl rfl ?_
        refine r_bipush (13) d_S_taken_23 (by decide) ?_
        refine r_icmp_gt d_S_taken_25 (fun h25 => ?_) (fun h25 => ?_)
        · refine r_iconst 0 d_S_taken_32 rfl ?_
          refine r_istore 4 [_, _, _, _, _, _, _] d_S_taken_33 (by decide) rfl ?_
          refine key _ _ ?_ ?_
          all_goals first
            | exact fun z => absurd z (by decide)
            | exact ⟨fun z => absurd z (by decide), fun z => absurd ⟨Int32.not_lt.mp h19, Int32.not_lt.mp h25⟩ z⟩
            | exact ⟨fun _ z => absurd z.1 (Int32.not_le.mpr h19), fun _ => rfl⟩
            | exact ⟨fun _ z => absurd z.2 (Int32.not_le.mpr h25), fun _ => rfl⟩
            | exact fun _ z => absurd z.1 (Int32.not_le.mpr h1)
            | exact fun _ z => absurd z.2 (Int32.not_lt.mpr h7)
        · refine r_iconst 1 d_S_taken_28 rfl ?_
          refine r_goto d_S_taken_29 ?_
          refine r_istore 4 [_, _, _, _, _, _, _] d_S_taken_33 (by decide) rfl ?_
          refine key _ _ ?_ ?_
          all_goals first
            | exact fun z => absurd z (by decide)
            | exact ⟨fun z => absurd z (by decide), fun z => absurd ⟨Int32.not_lt.mp h19, Int32.not_lt.mp h25⟩ z⟩
            | exact ⟨fun _ z => absurd z.1 (Int32.not_le.mpr h19), fun _ => rfl⟩
            | exact ⟨fun _ z => absurd z.2 (Int32.not_le.mpr h25), fun _ => rfl⟩
            | exact fun _ z => absurd z.1 (Int32.not_le.mpr h1)
            | exact fun _ z => absurd z.2 (Int32.not_lt.mpr h7)
    · refine r_iconst 1 d_S_taken_10 rfl ?_
      refine r_goto d_S_taken_11 ?_
      refine r_istore_n 3 [_, _, _, _, _, _, _] d_S_taken_15 rfl (by decide) rfl ?_
      refine r_iload_n 2 d_S_taken_16 rfl rfl ?_
      refine r_bipush (10) d_S_taken_17 (by decide) ?_
      refine r_icmp_lt d_S_taken_19 (fun h19 => ?_) (fun h19 => ?_)
      · refine r_iconst 0 d_S_taken_32 rfl ?_
        refine r_istore 4 [_, _, _, _, _, _, _] d_S_taken_33 (by decide) rfl ?_
        refine key _ _ ?_ ?_
        all_goals first
          | exact fun z => absurd z (by decide)
          | exact ⟨fun z => absurd z (by decide), fun z => absurd ⟨Int32.not_lt.mp h19, Int32.not_lt.mp h25⟩ z⟩
          | exact ⟨fun _ z => absurd z.1 (Int32.not_le.mpr h19), fun _ => rfl⟩
          | exact ⟨fun _ z => absurd z.2 (Int32.not_le.mpr h25), fun _ => rfl⟩
          | exact fun _ z => absurd z.1 (Int32.not_le.mpr h1)
          | exact fun _ z => absurd z.2 (Int32.not_lt.mpr h7)
      · refine r_iload_n 2 d_S_taken_22 rfl rfl ?_
        refine r_bipush (13) d_S_taken_23 (by decide) ?_
        refine r_icmp_gt d_S_taken_25 (fun h25 => ?_) (fun h25 => ?_)
        · refine r_iconst 0 d_S_taken_32 rfl ?_
          refine r_istore 4 [_, _, _, _, _, _, _] d_S_taken_33 (by decide) rfl ?_
          refine key _ _ ?_ ?_
          all_goals first
            | exact fun z => absurd z (by decide)
            | exact ⟨fun z => absurd z (by decide), fun z => absurd ⟨Int32.not_lt.mp h19, Int32.not_lt.mp h25⟩ z⟩
            | exact ⟨fun _ z => absurd z.1 (Int32.not_le.mpr h19), fun _ => rfl⟩
            | exact ⟨fun _ z => absurd z.2 (Int32.not_le.mpr h25), fun _ => rfl⟩
            | exact fun _ z => absurd z.1 (Int32.not_le.mpr h1)
            | exact fun _ z => absurd z.2 (Int32.not_lt.mpr h7)
        · refine r_iconst 1 d_S_taken_28 rfl ?_
          refine r_goto d_S_taken_29 ?_
          refine r_istore 4 [_, _, _, _, _, _, _] d_S_taken_33 (by decide) rfl ?_
          refine key _ _ ?_ ?_
          all_goals first
            | exact fun z => absurd z (by decide)
            | exact ⟨fun z => absurd z (by decide), fun z => absurd ⟨Int32.not_lt.mp h19, Int32.not_lt.mp h25⟩ z⟩
            | exact ⟨fun _ z => absurd z.1 (Int32.not_le.mpr h19), fun _ => rfl⟩
            | exact ⟨fun _ z => absurd z.2 (Int32.not_le.mpr h25), fun _ => rfl⟩
            | exact fun _ z => absurd z.1 (Int32.not_le.mpr h1)
            | exact fun _ z => absurd z.2 (Int32.not_lt.mpr h7)
set_option maxHeartbeats 400000 in
theorem c_S_taken_lrn {j m q k : Nat} (hj : j < 4) (a : Int32) (ha : isAs a) (μ : Me) (hm : m ≤ 4) (hct : μ.1 1 1 = nI m) (hr : μ.1 (78 + 1 * j) 1 = -1) (hq : q < m) (hl : μ.1 (78 + 1 * j) 0 = nI q) (hk : k < 6) (hkk : μ.1 (8 + 4 * q) 0 = nI k) : CtI m_S_taken 1 [.ref 0, .int (nI j), .int a] μ (if (0 ≤ a ∧ a < 6) ∧ undB k a.toNatClampNeg = true then nI q else -13) μ := by
  refine Ct.of (ls := [.ref 0, .int (nI j), .int a, flr, flr, flr, flr]) rfl (Nat.le_of_ble_eq_true rfl) rfl (fun X => ?_)
  have s0 : shp[78 + 1 * j]? = some (.inl (8, [0, 0, 0])) := isSf_s j hj
  obtain ⟨l9, l0, l1, l2, l3⟩ := isL_s q (by omega)
  have key : ∀ u v : Int32, (u = 0 ↔ ¬ (0 ≤ a ∧ a < 6)) → (v = 0 ↔ ¬ (10 ≤ a ∧ a ≤ 13)) → Wa X m_S_taken 1 35 [.ref 0, .int (nI j), .int a, .int u, .int v, flr, flr] [] μ (fun r μ' => r = some (.int (if (0 ≤ a ∧ a < 6) ∧ undB k a.toNatClampNeg = true then nI q else -13)) ∧ μ' = μ) := by
    intro u v hu hv
    have k53 : Wa X m_S_taken 1 53 [.ref 0, .int (nI j), .int a, .int u, .int v, flr, flr] [] μ (fun r μ' => r = some (.int (if (0 ≤ a ∧ a < 6) ∧ undB k a.toNatClampNeg = true then nI q else -13)) ∧ μ' = μ) := by
      refine r_aload_n 0 d_S_taken_53 rfl rfl ?_
      refine r_getR fl_S_80 (by first | with_reducible assumption | rfl) rfl d_S_taken_54 ?_
      refine r_iload_n 1 d_S_taken_57 rfl rfl ?_
      refine r_aald5N (by first | with_reducible assumption | rfl) (by decide) (by first | with_reducible assumption | omega | decide | assumption) d_S_taken_58 ?_
      refine r_astore 5 [_, _, _, _, _, _, _] d_S_taken_59 (by decide) rfl ?_
      refine r_aload 5 d_S_taken_61 rfl ?_
      refine r_callVi (c_Shelf_holdsRow (isSf_s j hj) _) lk_S_358 (by first | with_reducible assumption | rfl) d_S_taken_63 rfl rfl (Nat.le_of_ble_eq_true rfl) (by decide) ?_
      refine r_if_eq d_S_taken_66 (fun h66 => ?_) (fun h66 => absurd (bz_0.mpr (fun z => z hr)) h66)
      refine r_aload_n 0 d_S_taken_97 rfl rfl ?_
      refine r_getR fl_S_12 (by first | with_reducible assumption | rfl) rfl d_S_taken_98 ?_
      refine r_aload 5 d_S_taken_101 rfl ?_
      refine r_getI fl_S_363 (by first | with_reducible assumption | rfl) rfl d_S_taken_103 ?_
      rw [hl]
      refine r_callVa (c_School_learnerAt_yes q m hq hm _ hct) lk_S_127 (by first | with_reducible assumption | rfl) d_S_taken_106 rfl rfl (Nat.le_of_ble_eq_true rfl) (by decide) ?_
      refine r_astore 6 [_, _, _, _, _, _, _] d_S_taken_109 (by decide) rfl ?_
      refine r_aload 6 d_S_taken_111 rfl ?_
      refine r_ifnonnull d_S_taken_113 ?_
      refine r_iload_n 3 d_S_taken_119 rfl rfl ?_
      refine r_if_eq d_S_taken_120 (fun h120 => ?_) (fun h120 => ?_)
      · refine r_bipush (-13) d_S_taken_143 (by decide) ?_
        refine r_iret .int d_S_taken_145 rfl rfl ?_
        refine ⟨?_, rfl⟩
        first
          | rw [if_neg (fun z => hu.mp h120 z.1)]
          | (rw [hcp, if_neg (fun z => bz_np h132 z.2)])
          | (rw [hcp, if_pos ⟨Classical.not_not.mp (fun z => h120 (hu.mpr z)), bz_p h132⟩])
      · obtain ⟨zq, zhq, rfl⟩ : ∃ j, j < 6 ∧ a = nI j := by
          have hz := Classical.not_not.mp (fun z => h120 (hu.mpr z))
          rcases pk_ix a (n := 6) (by decide) with z | z | z
          · exact absurd z (Int32.not_lt.mpr hz.1)
          · exact absurd hz.2 (Int32.not_lt.mpr z)
          · exact z
        have hcp := cl36 zhq (show 6 ≤ 1000 by decide)
        refine r_aload 6 d_S_taken_123 rfl ?_
        refine r_getI fl_S_131 (by first | with_reducible assumption | rfl) rfl d_S_taken_125 ?_
        refine r_iload_n 2 d_S_taken_128 rfl rfl ?_
        rw [hkk]
        refine r_callSi (c_S_isUnder hk zhq _) lk_S_366 d_S_taken_129 rfl rfl (Nat.le_of_ble_eq_true rfl) (by decide) ?_
        refine r_if_eq d_S_taken_132 (fun h132 => ?_) (fun h132 => ?_)
        · refine r_bipush (-13) d_S_taken_143 (by decide) ?_
          refine r_iret .int d_S_taken_145 rfl rfl ?_
          refine ⟨?_, rfl⟩
          first
            | rw [if_neg (fun z => hu.mp h120 z.1)]
            | (rw [hcp, if_neg (fun z => bz_np h132 z.2)])
            | (rw [hcp, if_pos ⟨Classical.not_not.mp (fun z => h120 (hu.mpr z)), bz_p h132⟩])
        · refine r_aload 5 d_S_taken_135 rfl ?_
          refine r_getI fl_S_363 (by first | with_reducible assumption | rfl) rfl d_S_taken_137 ?_
          rw [hl]
          refine r_goto d_S_taken_140 ?_
          refine r_iret .int d_S_taken_145 rfl rfl ?_
          refine ⟨?_, rfl⟩
          first
            | rw [if_neg (fun z => hu.mp h120 z.1)]
            | (rw [hcp, if_neg (fun z => bz_np h132 z.2)])
            | (rw [hcp, if_pos ⟨Classical.not_not.mp (fun z => h120 (hu.mpr z)), bz_p h132⟩])
    refine r_iload_n 1 d_S_taken_35 rfl rfl ?_
    refine r_callSi (c_S_isShelf _ _) lk_S_345 d_S_taken_36 rfl rfl (Nat.le_of_ble_eq_true rfl) (by decide) ?_
    refine r_if_eq d_S_taken_39 (fun h39 => absurd h39 (fun z => bz_np z (f4_yes hj))) (fun h39 => ?_)
    refine r_iload_n 3 d_S_taken_42 rfl rfl ?_
    refine r_if_ne d_S_taken_43 (fun h43 => ?_) (fun h43 => ?_)
    · exact k53
    · refine r_iload 4 d_S_taken_46 rfl ?_
      refine r_if_ne d_S_taken_48 (fun h48 => ?_) (fun h48 => ?_)
      · exact k53
      · exact absurd ha (fun z => z.elim (hu.mp h43) (hv.mp h48))
  refine r_iload_n 2 d_S_taken_0 rfl rfl ?_
  refine r_if_lt d_S_taken_1 (fun h1 => ?_) (fun h1 => ?_)
  · refine r_iconst 0 d_S_taken_14 rfl ?_
    refine r_istore_n 3 [_, _, _, _, _, _, _] d_S_taken_15 rfl (by decide) rfl ?_
    refine r_iload_n 2 d_S_taken_16 rfl rfl ?_
    refine r_bipush (10) d_S_taken_17 (by decide) ?_
    refine r_icmp_lt d_S_taken_19 (fun h19 => ?_) (fun h19 => ?_)
    · refine r_iconst 0 d_S_taken_32 rfl ?_
      refine r_istore 4 [_, _, _, _, _, _, _] d_S_taken_33 (by decide) rfl ?_
      refine key _ _ ?_ ?_
      · first
          | exact ⟨fun _ z => absurd z.1 (Int32.not_le.mpr h1), fun _ => rfl⟩
          | exact ⟨fun _ z => absurd z.2 (Int32.not_lt.mpr h7), fun _ => rfl⟩
          | exact ⟨fun z => absurd z (by decide), fun z => absurd ⟨Int32.not_lt.mp h1, Int32.not_le.mp h7⟩ z⟩
      · first
          | exact ⟨fun _ z => absurd z.1 (Int32.not_le.mpr h19), fun _ => rfl⟩
          | exact ⟨fun _ z => absurd z.2 (Int32.not_le.mpr h25), fun _ => rfl⟩
          | exact ⟨fun z => absurd z (by decide), fun z => absurd ⟨Int32.not_lt.mp h19, Int32.not_lt.mp h25⟩ z⟩
    · refine r_iload_n 2 d_S_taken_22 rfl rfl ?_
      refine r_bipush (13) d_S_taken_23 (by decide) ?_
      refine r_icmp_gt d_S_taken_25 (fun h25 => ?_) (fun h25 => ?_)
      · refine r_iconst 0 d_S_taken_32 rfl ?_
        refine r_istore 4 [_, _, _, _, _, _, _] d_S_taken_33 (by decide) rfl ?_
        refine key _ _ ?_ ?_
        · first
            | exact ⟨fun _ z => absurd z.1 (Int32.not_le.mpr h1), fun _ => rfl⟩
            | exact ⟨fun _ z => absurd z.2 (Int32.not_lt.mpr h7), fun _ => rfl⟩
            | exact ⟨fun z => absurd z (by decide), fun z => absurd ⟨Int32.not_lt.mp h1, Int32.not_le.mp h7⟩ z⟩
        · first
            | exact ⟨fun _ z => absurd z.1 (Int32.not_le.mpr h19), fun _ => rfl⟩
            | exact ⟨fun _ z => absurd z.2 (Int32.not_le.mpr h25), fun _ => rfl⟩
            | exact ⟨fun z => absurd z (by decide), fun z => absurd ⟨Int32.not_lt.mp h19, Int32.not_lt.mp h25⟩ z⟩
      · refine r_iconst 1 d_S_taken_28 rfl ?_
        refine r_goto d_S_taken_29 ?_
        refine r_istore 4 [_, _, _, _, _, _, _] d_S_taken_33 (by decide) rfl ?_
        refine key _ _ ?_ ?_
        · first
            | exact ⟨fun _ z => absurd z.1 (Int32.not_le.mpr h1), fun _ => rfl⟩
            | exact ⟨fun _ z => absurd z.2 (Int32.not_lt.mpr h7), fun _ => rfl⟩
            | exact ⟨fun z => absurd z (by decide), fun z => absurd ⟨Int32.not_lt.mp h1, Int32.not_le.mp h7⟩ z⟩
        · first
            | exact ⟨fun _ z => absurd z.1 (Int32.not_le.mpr h19), fun _ => rfl⟩
            | exact ⟨fun _ z => absurd z.2 (Int32.not_le.mpr h25), fun _ => rfl⟩
            | exact ⟨fun z => absurd z (by decide), fun z => absurd ⟨Int32.not_lt.mp h19, Int32.not_lt.mp h25⟩ z⟩
  · refine r_iload_n 2 d_S_taken_4 rfl rfl ?_
    refine r_bipush (6) d_S_taken_5 (by decide) ?_
    refine r_icmp_ge d_S_taken_7 (fun h7 => ?_) (fun h7 => ?_)
    · refine r_iconst 0 d_S_taken_14 rfl ?_
      refine r_istore_n 3 [_, _, _, _, _, _, _] d_S_taken_15 rfl (by decide) rfl ?_
      refine r_iload_n 2 d_S_taken_16 rfl rfl ?_
      refine r_bipush (10) d_S_taken_17 (by decide) ?_
      refine r_icmp_lt d_S_taken_19 (fun h19 => ?_) (fun h19 => ?_)
      · refine r_iconst 0 d_S_taken_32 rfl ?_
        refine r_istore 4 [_, _, _, _, _, _, _] d_S_taken_33 (by decide) rfl ?_
        refine key _ _ ?_ ?_
        · first
            | exact ⟨fun _ z => absurd z.1 (Int32.not_le.mpr h1), fun _ => rfl⟩
            | exact ⟨fun _ z => absurd z.2 (Int32.not_lt.mpr h7), fun _ => rfl⟩
            | exact ⟨fun z => absurd z (by decide), fun z => absurd ⟨Int32.not_lt.mp h1, Int32.not_le.mp h7⟩ z⟩
        · first
            | exact ⟨fun _ z => absurd z.1 (Int32.not_le.mpr h19), fun _ => rfl⟩
            | exact ⟨fun _ z => absurd z.2 (Int32.not_le.mpr h25), fun _ => rfl⟩
            | exact ⟨fun z => absurd z (by decide), fun z => absurd ⟨Int32.not_lt.mp h19, Int32.not_lt.mp h25⟩ z⟩
      · refine r_iload_n 2 d_S_taken_22 rfl rfl ?_
        refine r_bipush (13) d_S_taken_23 (by decide) ?_
        refine r_icmp_gt d_S_taken_25 (fun h25 => ?_) (fun h25 => ?_)
        · refine r_iconst 0 d_S_taken_32 rfl ?_
          refine r_istore 4 [_, _, _, _, _, _, _] d_S_taken_33 (by decide) rfl ?_
          refine key _ _ ?_ ?_
          · first
              | exact ⟨fun _ z => absurd z.1 (Int32.not_le.mpr h1), fun _ => rfl⟩
              | exact ⟨fun _ z => absurd z.2 (Int32.not_lt.mpr h7), fun _ => rfl⟩
              | exact ⟨fun z => absurd z (by decide), fun z => absurd ⟨Int32.not_lt.mp h1, Int32.not_le.mp h7⟩ z⟩
          · first
              | exact ⟨fun _ z => absurd z.1 (Int32.not_le.mpr h19), fun _ => rfl⟩
              | exact ⟨fun _ z => absurd z.2 (Int32.not_le.mpr h25), fun _ => rfl⟩
              | exact ⟨fun z => absurd z (by decide), fun z => absurd ⟨Int32.not_lt.mp h19, Int32.not_lt.mp h25⟩ z⟩
        · refine r_iconst 1 d_S_taken_28 rfl ?_
          refine r_goto d_S_taken_29 ?_
          refine r_istore 4 [_, _, _, _, _, _, _] d_S_taken_33 (by decide) rfl ?_
          refine key _ _ ?_ ?_
          · first
              | exact ⟨fun _ z => absurd z.1 (Int32.not_le.mpr h1), fun _ => rfl⟩
              | exact ⟨fun _ z => absurd z.2 (Int32.not_lt.mpr h7), fun _ => rfl⟩
              | exact ⟨fun z => absurd z (by decide), fun z => absurd ⟨Int32.not_lt.mp h1, Int32.not_le.mp h7⟩ z⟩
          · first
              | exact ⟨fun _ z => absurd z.1 (Int32.not_le.mpr h19), fun _ => rfl⟩
              | exact ⟨fun _ z => absurd z.2 (Int32.not_le.mpr h25), fun _ => rfl⟩
              | exact ⟨fun z => absurd z (by decide), fun z => absurd ⟨Int32.not_lt.mp h19, Int32.not_lt.mp h25⟩ z⟩
    · refine r_iconst 1 d_S_taken_10 rfl ?_
      refine r_goto d_S_taken_11 ?_
      refine r_istore_n 3 [_, _, _, _, _, _, _] d_S_taken_15 rfl (by decide) rfl ?_
      refine r_iload_n 2 d_S_taken_16 rfl rfl ?_
      refine r_bipush (10) d_S_taken_17 (by decide) ?_
      refine r_icmp_lt d_S_taken_19 (fun h19 => ?_) (fun h19 => ?_)
      · refine r_iconst 0 d_S_taken_32 rfl ?_
        refine r_istore 4 [_, _, _, _, _, _, _] d_S_taken_33 (by decide) rfl ?_
        refine key _ _ ?_ ?_
        · first
            | exact ⟨fun _ z => absurd z.1 (Int32.not_le.mpr h1), fun _ => rfl⟩
            | exact ⟨fun _ z => absurd z.2 (Int32.not_lt.mpr h7), fun _ => rfl⟩
            | exact ⟨fun z => absurd z (by decide), fun z => absurd ⟨Int32.not_lt.mp h1, Int32.not_le.mp h7⟩ z⟩
        · first
            | exact ⟨fun _ z => absurd z.1 (Int32.not_le.mpr h19), fun _ => rfl⟩
            | exact ⟨fun _ z => absurd z.2 (Int32.not_le.mpr h25), fun _ => rfl⟩
            | exact ⟨fun z => absurd z (by decide), fun z => absurd ⟨Int32.not_lt.mp h19, Int32.not_lt.mp h25⟩ z⟩
      · refine r_iload_n 2 d_S_taken_22 rfl rfl ?_
        refine r_bipush (13) d_S_taken_23 (by decide) ?_
        refine r_icmp_gt d_S_taken_25 (fun h25 => ?_) (fun h25 => ?_)
        · refine r_iconst 0 d_S_taken_32 rfl ?_
          refine r_istore 4 [_, _, _, _, _, _, _] d_S_taken_33 (by decide) rfl ?_
          refine key _ _ ?_ ?_
          · first
              | exact ⟨fun _ z => absurd z.1 (Int32.not_le.mpr h1), fun _ => rfl⟩
              | exact ⟨fun _ z => absurd z.2 (Int32.not_lt.mpr h7), fun _ => rfl⟩
              | exact ⟨fun z => absurd z (by decide), fun z => absurd ⟨Int32.not_lt.mp h1, Int32.not_le.mp h7⟩ z⟩
          · first
              | exact ⟨fun _ z => absurd z.1 (Int32.not_le.mpr h19), fun _ => rfl⟩
              | exact ⟨fun _ z => absurd z.2 (Int32.not_le.mpr h25), fun _ => rfl⟩
              | exact ⟨fun z => absurd z (by decide), fun z => absurd ⟨Int32.not_lt.mp h19, Int32.not_lt.mp h25⟩ z⟩
        · refine r_iconst 1 d_S_taken_28 rfl ?_
          refine r_goto d_S_taken_29 ?_
          refine r_istore 4 [_, _, _, _, _, _, _] d_S_taken_33 (by decide) rfl ?_
          refine key _ _ ?_ ?_
          · first
              | exact ⟨fun _ z => absurd z.1 (Int32.not_le.mpr h1), fun _ => rfl⟩
              | exact ⟨fun _ z => absurd z.2 (Int32.not_lt.mpr h7), fun _ => rfl⟩
              | exact ⟨fun z => absurd z (by decide), fun z => absurd ⟨Int32.not_lt.mp h1, Int32.not_le.mp h7⟩ z⟩
          · first
              | exact ⟨fun _ z => absurd z.1 (Int32.not_le.mpr h19), fun _ => rfl⟩
              | exact ⟨fun _ z => absurd z.2 (Int32.not_le.mpr h25), fun _ => rfl⟩
              | exact ⟨fun z => absurd z (by decide), fun z => absurd ⟨Int32.not_lt.mp h19, Int32.not_lt.mp h25⟩ z⟩
/-- what held numbers of a SHEET become FIRM -/
def clS (v : Int32) : Int32 := if 0 < (if v < 100 then v else 100) then (if v < 100 then v else 100) else 0
def frF (g : Nat → Int64) (i p : Nat) (f : Nat → Int32) : Nat → Nat → Int32
  | 0 => f
  | k + 1 => upd (frF g i p f k) (p + k) (clS (g (i + k)).toInt32)
set_option maxHeartbeats 400000 in
theorem c_S_firms_bad {m : Nat} (hm : m ≤ 4) (s i l p n : Int32) (μ : Me) (hct : μ.1 1 1 = nI m) (hP : ¬ ((0 ≤ s ∧ s < 4) ∧ (0 ≤ l ∧ l < nI m) ∧ (0 ≤ p ∧ p < 36) ∧ 0 ≤ n ∧ n ≤ 36 - p)) : CtI m_S_firms 1 [.ref 0, .int s, .int i, .int l, .int p, .int n] μ (-1) μ := by
  refine Ct.of (ls := [.ref 0, .int s, .int i, .int l, .int p, .int n, flr, flr, flr, flr]) rfl (Nat.le_of_ble_eq_true rfl) rfl (fun X => ?_)
  by_cases hg : 0 ≤ l ∧ l < nI m
  · obtain ⟨j, hj, rfl⟩ := lr_yes hm hg
    refine r_aload_n 0 d_S_firms_0 rfl rfl ?_
    refine r_getR fl_S_12 (by first | with_reducible assumption | rfl) rfl d_S_firms_1 ?_
    refine r_iload_n 3 d_S_firms_4 rfl rfl ?_
    refine r_callVa (c_School_learnerAt_yes j m hj hm _ hct) lk_S_127 (by first | with_reducible assumption | rfl) d_S_firms_5 rfl rfl (Nat.le_of_ble_eq_true rfl) (by decide) ?_
    refine r_astore 6 [_, _, _, _, _, _, _, _, _, _] d_S_firms_8 (by decide) rfl ?_
    refine r_iload_n 1 d_S_firms_10 rfl rfl ?_
    refine r_callSi (c_S_isSheet _ _) lk_S_313 d_S_firms_11 rfl rfl (Nat.le_of_ble_eq_true rfl) (by decide) ?_
    refine r_if_eq d_S_firms_14 (fun h14 => ?_) (fun h14 => ?_)
    · refine r_iconst (-1) d_S_firms_30 rfl ?_
      refine r_iret .int d_S_firms_31 rfl rfl ?_
      exact ⟨rfl, rfl⟩
    · refine r_aload 6 d_S_firms_17 rfl ?_
      refine r_ifnull d_S_firms_19 ?_
      refine r_iload 4 d_S_firms_22 rfl ?_
      refine r_callSi (c_S_isPair _ _) lk_S_144 d_S_firms_24 rfl rfl (Nat.le_of_ble_eq_true rfl) (by decide) ?_
      refine r_if_ne d_S_firms_27 (fun h27 => ?_) (fun h27 => ?_)
      · refine r_iload 5 d_S_firms_32 rfl ?_
        refine r_bipush (36) d_S_firms_34 (by decide) ?_
        refine r_iload 4 d_S_firms_36 rfl ?_
        refine r_isub d_S_firms_38 ?_
        refine r_callSi (c_S_isWithin _ _ _) lk_S_118 d_S_firms_39 rfl rfl (Nat.le_of_ble_eq_true rfl) (by decide) ?_
        refine r_if_ne d_S_firms_42 (fun h42 => absurd (bz_0.mpr (fun z => hP ⟨bz_p h14, hg, bz_p h27, z⟩)) h42) (fun h42 => ?_)
        refine r_iconst (-1) d_S_firms_45 rfl ?_
        refine r_iret .int d_S_firms_46 rfl rfl ?_
        exact ⟨rfl, rfl⟩
      · refine r_iconst (-1) d_S_firms_30 rfl ?_
        refine r_iret .int d_S_firms_31 rfl rfl ?_
        exact ⟨rfl, rfl⟩
  · have hno := lr_no hg
    rw [← hct] at hno
    refine r_aload_n 0 d_S_firms_0 rfl rfl ?_
    refine r_getR fl_S_12 (by first | with_reducible assumption | rfl) rfl d_S_firms_1 ?_
    refine r_iload_n 3 d_S_firms_4 rfl rfl ?_
    refine r_callVa (c_School_learnerAt_no _ _ hno) lk_S_127 (by first | with_reducible assumption | rfl) d_S_firms_5 rfl rfl (Nat.le_of_ble_eq_true rfl) (by decide) ?_
    refine r_astoreN 6 [_, _, _, _, _, _, _, _, _, _] d_S_firms_8 (by decide) rfl ?_
    refine r_iload_n 1 d_S_firms_10 rfl rfl ?_
    refine r_callSi (c_S_isSheet _ _) lk_S_313 d_S_firms_11 rfl rfl (Nat.le_of_ble_eq_true rfl) (by decide) ?_
    refine r_if_eq d_S_firms_14 (fun h14 => ?_) (fun h14 => ?_)
    · refine r_iconst (-1) d_S_firms_30 rfl ?_
      refine r_iret .int d_S_firms_31 rfl rfl ?_
      exact ⟨rfl, rfl⟩
    · refine r_aloadN 6 d_S_firms_17 rfl ?_
      refine r_ifnullN d_S_firms_19 ?_
      refine r_iconst (-1) d_S_firms_30 rfl ?_
      refine r_iret .int d_S_firms_31 rfl rfl ?_
      exact ⟨rfl, rfl⟩
set_option maxHeartbeats 400000 in
theorem c_S_firms {m s q p n ln : Nat} (hm : m ≤ 4) (hs : s < 4) (hq : q < m) (hp : p < 36) (hn : p + n ≤ 36) (hl : ln ≤ 40) (i : Int32) (μ : Me) (hct : μ.1 1 1 = nI m) (hln : μ.1 (70 + 2 * s) 1 = nI ln) : Ct m_S_firms 1 [.ref 0, .int (nI s), .int i, .int (nI q), .int (nI p), .int (nI n)] μ (fun r μ' => (μ.1 (70 + 2 * s) 0 = -1 → r = some (.int (-11)) ∧ μ' = μ) ∧ (¬ μ.1 (70 + 2 * s) 0 = -1 → ¬ μ.1 (70 + 2 * s) 0 = 0 → r = some (.int (-13)) ∧ μ' = μ) ∧ (¬ μ.1 (70 + 2 * s) 0 = -1 → μ.1 (70 + 2 * s) 0 = 0 → (∀ k, i = nI k → k + n ≤ ln → r = some (.int (nI n)) ∧ μ' = rI μ (8 + 4 * q + 1) (frF (μ.2 (70 + 2 * s + 1)) k p (μ.1 (8 + 4 * q + 1)) n)) ∧ ((∀ k, i = nI k → k < 2 ^ 31 → ln < k + n) → r = some (.int (-12)) ∧ μ' = μ))) := by
  refine Ct.of (ls := [.ref 0, .int (nI s), .int i, .int (nI q), .int (nI p), .int (nI n), flr, flr, flr, flr]) rfl (Nat.le_of_ble_eq_true rfl) rfl (fun X => ?_)
  obtain ⟨s0, s1⟩ := isSh_s s hs
  obtain ⟨l9, l0, l1, l2, l3⟩ := isL_s q (by omega)
  have e36 : (36 : Int32) - nI p = nI (36 - p) := pk_sub (a := 36) (by omega)
  refine r_aload_n 0 d_S_firms_0 rfl rfl ?_
  refine r_getR fl_S_12 (by first | with_reducible assumption | rfl) rfl d_S_firms_1 ?_
  refine r_iload_n 3 d_S_firms_4 rfl rfl ?_
  refine r_callVa (c_School_learnerAt_yes q m hq hm _ hct) lk_S_127 (by first | with_reducible assumption | rfl) d_S_firms_5 rfl rfl (Nat.le_of_ble_eq_true rfl) (by decide) ?_
  refine r_astore 6 [_, _, _, _, _, _, _, _, _, _] d_S_firms_8 (by decide) rfl ?_
  refine r_iload_n 1 d_S_firms_10 rfl rfl ?_
  refine r_callSi (c_S_isSheet _ _) lk_S_313 d_S_firms_11 rfl rfl (Nat.le_of_ble_eq_true rfl) (by decide) ?_
  refine r_if_eq d_S_firms_14 (fun h14 => absurd h14 (fun z => bz_np z (f4_yes hs))) (fun h14 => ?_)
  refine r_aload 6 d_S_firms_17 rfl ?_
  refine r_ifnull d_S_firms_19 ?_
  refine r_iload 4 d_S_firms_22 rfl ?_
  refine r_callSi (c_S_isPair _ _) lk_S_144 d_S_firms_24 rfl rfl (Nat.le_of_ble_eq_true rfl) (by decide) ?_
  refine r_if_ne d_S_firms_27 (fun h27 => ?_) (fun h27 => absurd h27 (fun z => bz_np z ⟨nI_pos' (by omega), nI_lt hp (by decide)⟩))
  refine r_iload 5 d_S_firms_32 rfl ?_
  refine r_bipush (36) d_S_firms_34 (by decide) ?_
  refine r_iload 4 d_S_firms_36 rfl ?_
  refine r_isub d_S_firms_38 ?_
  refine r_callSi (c_S_isWithin _ _ _) lk_S_118 d_S_firms_39 rfl rfl (Nat.le_of_ble_eq_true rfl) (by decide) ?_
  refine r_if_ne d_S_firms_42 (fun h42 => ?_) (fun h42 => absurd h42 (fun z => bz_np z ⟨nI_pos' (by omega), by rw [e36]; exact nI_le (by omega) (by omega)⟩))
  refine r_aload_n 0 d_S_firms_47 rfl rfl ?_
  refine r_getR fl_S_74 (by first | with_reducible assumption | rfl) rfl d_S_firms_48 ?_
  refine r_iload_n 1 d_S_firms_51 rfl rfl ?_
  refine r_aald4N (by first | with_reducible assumption | rfl) (by decide) (by first | with_reducible assumption | omega | decide | assumption) d_S_firms_52 ?_
  refine r_astore 7 [_, _, _, _, _, _, _, _, _, _] d_S_firms_53 (by decide) rfl ?_
  refine r_aload 7 d_S_firms_55 rfl ?_
  refine r_callVi (c_Sheet_isMissing (isSh_s s hs) _) lk_S_316 (by first | with_reducible assumption | rfl) d_S_firms_57 rfl rfl (Nat.le_of_ble_eq_true rfl) (by decide) ?_
  refine r_if_eq d_S_firms_60 (fun h60 => ?_) (fun h60 => ?_)
  · refine r_aload 7 d_S_firms_66 rfl ?_
    refine r_getI fl_S_319 (by first | with_reducible assumption | rfl) rfl d_S_firms_68 ?_
    refine r_if_eq d_S_firms_71 (fun h71 => ?_) (fun h71 => ?_)
    · refine r_iload_n 2 d_S_firms_77 rfl rfl ?_
      refine r_if_lt d_S_firms_78 (fun h78 => ?_) (fun h78 => ?_)
      · refine r_bipush (-12) d_S_firms_102 (by decide) ?_
        refine r_iret .int d_S_firms_104 rfl rfl ?_
        refine ⟨fun z => absurd z (bz_np h60), fun _ z => absurd h71 z, fun _ _ => ⟨fun k hk hkn => ?_, fun _ => ⟨rfl, rfl⟩⟩⟩
        exfalso
        subst hk
        first
          | exact nI_pos (by omega) h78
          | exact absurd h87 (Int32.not_lt.mpr (by rw [hln]; exact nI_le (by omega) (by omega)))
          | exact h99 (by rw [hln, pk_sub (by omega)]; exact nI_le (by omega) (by omega))
      · refine r_iload_n 2 d_S_firms_81 rfl rfl ?_
        refine r_aload 7 d_S_firms_82 rfl ?_
        refine r_getI fl_S_322 (by first | with_reducible assumption | rfl) rfl d_S_firms_84 ?_
        refine r_icmp_gt d_S_firms_87 (fun h87 => ?_) (fun h87 => ?_)
        · refine r_bipush (-12) d_S_firms_102 (by decide) ?_
          refine r_iret .int d_S_firms_104 rfl rfl ?_
          refine ⟨fun z => absurd z (bz_np h60), fun _ z => absurd h71 z, fun _ _ => ⟨fun k hk hkn => ?_, fun _ => ⟨rfl, rfl⟩⟩⟩
          exfalso
          subst hk
          first
            | exact nI_pos (by omega) h78
            | exact absurd h87 (Int32.not_lt.mpr (by rw [hln]; exact nI_le (by omega) (by omega)))
            | exact h99 (by rw [hln, pk_sub (by omega)]; exact nI_le (by omega) (by omega))
        · refine r_iload 5 d_S_firms_90 rfl ?_
          refine r_aload 7 d_S_firms_92 rfl ?_
          refine r_getI fl_S_322 (by first | with_reducible assumption | rfl) rfl d_S_firms_94 ?_
          refine r_iload_n 2 d_S_firms_97 rfl rfl ?_
          refine r_isub d_S_firms_98 ?_
          refine r_icmp_le d_S_firms_99 (fun h99 => ?_) (fun h99 => ?_)
          · obtain ⟨k, hk31, rfl⟩ := nI_of (x := i) h78
            have hkl : k ≤ ln := (nI_leI hk31 (by omega)).mp (by rw [← hln]; exact Int32.not_lt.mp h87)
            have hkn : n ≤ ln - k := (nI_leI (by omega) (by omega)).mp (by rw [← pk_sub hkl, ← hln]; exact h99)
            refine r_iconst 0 d_S_firms_105 rfl ?_
            refine r_istore 8 [_, _, _, _, _, _, _, _, _, _] d_S_firms_106 (by decide) rfl ?_
            refine lpN n (fun i1 (μ1 : Me) => ∀ z1 : Value, Wa X m_S_firms 1 108 [.ref 0, .int (nI s), .int (nI k), .int (nI q), .int (nI p), .int (nI n), .ref (8 + 4 * q), .ref (70 + 2 * s), .int (nI i1), z1] [] μ1 _) (fun i1 μ1 => μ1 = rI μ (8 + 4 * q + 1) (frF (μ.2 (70 + 2 * s + 1)) k p (μ.1 (8 + 4 * q + 1)) i1)) ?_ 0 μ (Nat.zero_le _) (by rw [frF, rI_self]) _
            intro i1 μ1 hi hw hk z1
            subst hw
            refine r_iload 8 d_S_firms_108 rfl ?_
            refine r_iload 5 d_S_firms_110 rfl ?_
            refine r_icmp_ge d_S_firms_112 (fun h112 => ?_) (fun h112 => ?_)
            · refine r_iload 5 d_S_firms_156 rfl ?_
              refine r_iret .int d_S_firms_158 rfl rfl ?_
              have hge := n_le h112 rfl rfl (by omega) (by omega)
              obtain rfl : i1 = n := by omega
              refine ⟨fun z => absurd z (bz_np h60), fun _ z => absurd h71 z, fun _ _ => ⟨fun k' hk' hkn' => ?_, fun z => absurd (z k rfl hk31) (by omega)⟩⟩
              obtain rfl : k' = k := ((nI_eq hk31 (by omega)).mp hk').symm
              exact ⟨rfl, rfl⟩
            · have hl1 : i1 < n := n_lt h112 rfl rfl (by omega) (by omega)
              refine r_aload 7 d_S_firms_115 rfl ?_
              refine r_getR fl_S_323 (by first | with_reducible assumption | rfl) rfl d_S_firms_117 ?_
              refine r_iload_n 2 d_S_firms_120 rfl rfl ?_
              refine r_iload 8 d_S_firms_121 rfl ?_
              refine r_iadd d_S_firms_123 ?_
              rw [nI_add]
              refine r_laldN (by first | with_reducible assumption | rfl) (show k + i1 < 40 by omega) d_S_firms_124 ?_
              refine r_l2i d_S_firms_125 ?_
              refine r_istore 9 [_, _, _, _, _, _, _, _, _, _] d_S_firms_126 (by decide) rfl ?_
              refine r_aload 6 d_S_firms_128 rfl ?_
              refine r_getR fl_S_166 (by first | with_reducible assumption | rfl) rfl d_S_firms_130 ?_
              refine r_iload 4 d_S_firms_133 rfl ?_
              refine r_iload 8 d_S_firms_135 rfl ?_
              refine r_iadd d_S_firms_137 ?_
              rw [nI_add]
              refine r_iconst 0 d_S_firms_138 rfl ?_
              refine r_bipush (100) d_S_firms_139 (by decide) ?_
              refine r_iload 9 d_S_firms_141 rfl ?_
              refine r_min mm_S_327 d_S_firms_143 (Nat.le_of_ble_eq_true rfl) (by decide) ?_
              refine r_max mm_S_332 d_S_firms_146 (Nat.le_of_ble_eq_true rfl) (by decide) ?_
              refine r_iastN (by first | with_reducible assumption | rfl) (show p + i1 < 36 by omega) d_S_firms_149 ?_
              first | refine r_iincN 8 [_, _, _, _, _, _, _, _, _, _] d_S_firms_150 (by decide) rfl rfl ?_ | refine r_iinc 8 [_, _, _, _, _, _, _, _, _, _] (1) d_S_firms_150 (by decide) (by decide) rfl rfl ?_
              refine r_goto d_S_firms_153 ?_
              refine hk _ hl1 ?_ _
              rw [uI_rI, frF]
              rfl
          · refine r_bipush (-12) d_S_firms_102 (by decide) ?_
            refine r_iret .int d_S_firms_104 rfl rfl ?_
            refine ⟨fun z => absurd z (bz_np h60), fun _ z => absurd h71 z, fun _ _ => ⟨fun k hk hkn => ?_, fun _ => ⟨rfl, rfl⟩⟩⟩
            exfalso
            subst hk
            first
              | exact nI_pos (by omega) h78
              | exact absurd h87 (Int32.not_lt.mpr (by rw [hln]; exact nI_le (by omega) (by omega)))
              | exact h99 (by rw [hln, pk_sub (by omega)]; exact nI_le (by omega) (by omega))
    · refine r_bipush (-13) d_S_firms_74 (by decide) ?_
      refine r_iret .int d_S_firms_76 rfl rfl ?_
      exact ⟨fun z => absurd z (bz_np h60), fun _ _ => ⟨rfl, rfl⟩, fun _ z => absurd z h71⟩
  · refine r_bipush (-11) d_S_firms_63 (by decide) ?_
    refine r_iret .int d_S_firms_65 rfl rfl ?_
    exact ⟨fun _ => ⟨rfl, rfl⟩, fun z => absurd (bz_p h60) z, fun z => absurd (bz_p h60) z⟩
