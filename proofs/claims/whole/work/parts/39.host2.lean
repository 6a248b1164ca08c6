/-- is the KIND k the kind a, or under it? -/
def undB (k a : Nat) : Bool := k == a || (a == 0) || (k == 3 && a == 2) || (k == 4 && a == 1)
theorem und_tab : ∀ k : Fin 6, ∀ i : Fin 7, True := fun _ _ => trivial
set_option maxHeartbeats 400000 in
theorem c_S_isUnder {k : Nat} (hk : k < 6) {as : Nat} (ha : as < 6) (μ : Me) : CtI m_S_isUnder 0 [.int (nI k), .int (nI as)] μ (bz (undB k as = true)) μ := by
  refine Ct.of (ls := [.int (nI k), .int (nI as), flr, flr]) rfl (Nat.le_of_ble_eq_true rfl) rfl (fun X => ?_)
  have stp : ∀ (u i : Nat) (R : Int32), u < 6 → i < 6 → (u = as → R = 1) → (u ≠ as → Wa X m_S_isUnder 0 4 [.int (nI k), .int (nI as), .int ((sta 3).getD u 0), .int (nI (i + 1))] [] μ (fun r μ' => r = some (.int R) ∧ μ' = μ)) → Wa X m_S_isUnder 0 4 [.int (nI k), .int (nI as), .int (nI u), .int (nI i)] [] μ (fun r μ' => r = some (.int R) ∧ μ' = μ) := by
    intro u i R hu hi h1 h2
    refine r_iload_n 3 d_S_isUnder_4 rfl rfl ?_
    refine r_bipush (6) d_S_isUnder_5 (by decide) ?_
    refine r_icmp_ge d_S_isUnder_7 (fun h7 => absurd h7 (nI_ge hi (by decide))) (fun h7 => ?_)
    refine r_iload_n 2 d_S_isUnder_10 rfl rfl ?_
    refine r_if_lt d_S_isUnder_11 (fun h11 => absurd h11 (nI_pos (by omega))) (fun h11 => ?_)
    refine r_iload_n 2 d_S_isUnder_14 rfl rfl ?_
    refine r_iload_n 1 d_S_isUnder_15 rfl rfl ?_
    refine r_icmp_ne d_S_isUnder_16 (fun h16 => ?_) (fun h16 => ?_)
    · refine r_gets 3 (by decide) fs_S_392 d_S_isUnder_21 ?_
      refine r_iload_n 2 d_S_isUnder_24 rfl rfl ?_
      refine r_taldN (t := 3) (by decide) (by exact hu) d_S_isUnder_25 ?_
      refine r_istore_n 2 [_, _, _, _] d_S_isUnder_26 rfl (by decide) rfl ?_
      first | refine r_iincN 3 [_, _, _, _] d_S_isUnder_27 (by decide) rfl rfl ?_ | refine r_iinc 3 [_, _, _, _] (1) d_S_isUnder_27 (by decide) (by decide) rfl rfl ?_
      refine r_goto d_S_isUnder_30 ?_
      exact h2 (fun z => h16 (by rw [z]))
    · refine r_iconst 1 d_S_isUnder_19 rfl ?_
      refine r_iret .boolean d_S_isUnder_20 rfl (by first | decide | assumption) ?_
      exact ⟨by rw [h1 ((nI_eq (by omega) (by omega)).mp h16)], rfl⟩
  have fin : ∀ (i : Nat), i < 6 → Wa X m_S_isUnder 0 4 [.int (nI k), .int (nI as), .int (-9), .int (nI i)] [] μ (fun r μ' => r = some (.int 0) ∧ μ' = μ) := by
    intro i hi
    refine r_iload_n 3 d_S_isUnder_4 rfl rfl ?_
    refine r_bipush (6) d_S_isUnder_5 (by decide) ?_
    refine r_icmp_ge d_S_isUnder_7 (fun h7 => absurd h7 (nI_ge hi (by decide))) (fun h7 => ?_)
    refine r_iload_n 2 d_S_isUnder_10 rfl rfl ?_
    refine r_if_lt d_S_isUnder_11 (fun h11 => ?_) (fun h11 => absurd (by decide) h11)
    refine r_iconst 0 d_S_isUnder_33 rfl ?_
    refine r_iret .boolean d_S_isUnder_34 rfl (by first | decide | assumption) ?_
    exact ⟨rfl, rfl⟩
  have ks : k = 0 ∨ k = 1 ∨ k = 2 ∨ k = 3 ∨ k = 4 ∨ k = 5 := by omega
  have as6 : as = 0 ∨ as = 1 ∨ as = 2 ∨ as = 3 ∨ as = 4 ∨ as = 5 := by omega
  refine r_iload_n 0 d_S_isUnder_0 rfl rfl ?_
  refine r_istore_n 2 [_, _, _, _] d_S_isUnder_1 rfl (by decide) rfl ?_
  refine r_iconst 0 d_S_isUnder_2 rfl ?_
  refine r_istore_n 3 [_, _, _, _] d_S_isUnder_3 rfl (by decide) rfl ?_
  rcases ks with rfl | rfl | rfl | rfl | rfl | rfl <;> rcases as6 with rfl | rfl | rfl | rfl | rfl | rfl <;> first
    | exact stp _ 0 1 (by decide) (by decide) (fun _ => rfl) (fun z => absurd rfl z)
    | exact stp _ 0 0 (by decide) (by decide) (fun z => absurd z (by decide)) (fun _ => fin 1 (by decide))
    | exact stp _ 0 1 (by decide) (by decide) (fun z => absurd z (by decide)) (fun _ => stp 0 1 1 (by decide) (by decide) (fun _ => rfl) (fun z => absurd rfl z))
    | exact stp _ 0 0 (by decide) (by decide) (fun z => absurd z (by decide)) (fun _ => stp 0 1 0 (by decide) (by decide) (fun z => absurd z (by decide)) (fun _ => fin 2 (by decide)))
    | exact stp _ 0 1 (by decide) (by decide) (fun z => absurd z (by decide)) (fun _ => stp 2 1 1 (by decide) (by decide) (fun _ => rfl) (fun z => absurd rfl z))
    | exact stp _ 0 1 (by decide) (by decide) (fun z => absurd z (by decide)) (fun _ => stp 1 1 1 (by decide) (by decide) (fun _ => rfl) (fun z => absurd rfl z))
    | exact stp _ 0 1 (by decide) (by decide) (fun z => absurd z (by decide)) (fun _ => stp 2 1 1 (by decide) (by decide) (fun z => absurd z (by decide)) (fun _ => stp 0 2 1 (by decide) (by decide) (fun _ => rfl) (fun z => absurd rfl z)))
    | exact stp _ 0 1 (by decide) (by decide) (fun z => absurd z (by decide)) (fun _ => stp 1 1 1 (by decide) (by decide) (fun z => absurd z (by decide)) (fun _ => stp 0 2 1 (by decide) (by decide) (fun _ => rfl) (fun z => absurd rfl z)))
    | exact stp _ 0 0 (by decide) (by decide) (fun z => absurd z (by decide)) (fun _ => stp 2 1 0 (by decide) (by decide) (fun z => absurd z (by decide)) (fun _ => stp 0 2 0 (by decide) (by decide) (fun z => absurd z (by decide)) (fun _ => fin 3 (by decide))))
    | exact stp _ 0 0 (by decide) (by decide) (fun z => absurd z (by decide)) (fun _ => stp 1 1 0 (by decide) (by decide) (fun z => absurd z (by decide)) (fun _ => stp 0 2 0 (by decide) (by decide) (fun z => absurd z (by decide)) (fun _ => fin 3 (by decide))))
def isAs (a : Int32) : Prop := (0 ≤ a ∧ a < 6) ∨ (10 ≤ a ∧ a ≤ 13)
set_option maxHeartbeats 400000 in
theorem c_S_taken_bad {s a : Int32} (hP : ¬ ((0 ≤ s ∧ s < 4) ∧ isAs a)) (μ : Me) : CtI m_S_taken 1 [.ref 0, .int s, .int a] μ (-1) μ := by
  refine Ct.of (ls := [.ref 0, .int s, .int a, flr, flr, flr, flr]) rfl (Nat.le_of_ble_eq_true rfl) rfl (fun X => ?_)
  have key : ∀ u v : Int32, (¬ u = 0 → 0 ≤ a ∧ a < 6) → (¬ v = 0 → 10 ≤ a ∧ a ≤ 13) → Wa X m_S_taken 1 35 [.ref 0, .int s, .int a, .int u, .int v, flr, flr] [] μ (fun r μ' => r = some (.int (-1)) ∧ μ' = μ) := by
    intro u v hu hv
    refine r_iload_n 1 d_S_taken_35 rfl rfl ?_
    refine r_callSi (c_S_isShelf _ _) lk_S_345 d_S_taken_36 rfl rfl (Nat.le_of_ble_eq_true rfl) (by decide) ?_
    refine r_if_eq d_S_taken_39 (fun h39 => ?_) (fun h39 => ?_)
    · refine r_iconst (-1) d_S_taken_51 rfl ?_
      refine r_iret .int d_S_taken_52 rfl rfl ?_
      exact ⟨rfl, rfl⟩
    · refine r_iload_n 3 d_S_taken_42 rfl rfl ?_
      refine r_if_ne d_S_taken_43 (fun h43 => absurd (Classical.not_not.mp (fun z => hP ⟨bz_p h39, Or.inl (hu z)⟩)) h43) (fun h43 => ?_)
      refine r_iload 4 d_S_taken_46 rfl ?_
      refine r_if_ne d_S_taken_48 (fun h48 => absurd (Classical.not_not.mp (fun z => hP ⟨bz_p h39, Or.inr (hv z)⟩)) h48) (fun h48 => ?_)
      refine r_iconst (-1) d_S_taken_51 rfl ?_
      refine r_iret .int d_S_taken_52 rfl rfl ?_
      exact ⟨rfl, rfl⟩
  refine r_iload_n 2 d_S_taken_0 rfl rfl ?_
  refine r_if_lt d_S_taken_1 (fun h1 => ?_) (fun h1 => ?_)
  · refine r_iconst 0 d_S_taken_14 rfl ?_
    refine r_istore_n 3 [_, _, _, _, _, _, _] d_S_taken_15 rfl (by decide) rfl ?_
    refine r_iload_n 2 d_S_taken_16 rfl rfl ?_
    refine r_bipush (10) d_S_taken_17 (by decide) ?_
    refine r_icmp_lt d_S_taken_19 (fun h19 => ?_) (fun h19 => ?_)
    · refine r_iconst 0 d_S_taken_32 rfl ?_
      refine r_istore 4 [_, _, _, _, _, _, _] d_S_taken_33 (by decide) rfl ?_
      refine key _ _ ?_ ?_
      all_goals first
        | exact fun _ => ⟨Int32.not_lt.mp h1, Int32.not_le.mp h7⟩
        | exact fun _ => ⟨Int32.not_lt.mp h19, Int32.not_lt.mp h25⟩
        | exact fun z => absurd rfl z
    · refine r_iload_n 2 d_S_taken_22 rfl rfl ?_
      refine r_bipush (13) d_S_taken_23 (by decide) ?_
      refine r_icmp_gt d_S_taken_25 (fun h25 => ?_) (fun h25 => ?_)
      · refine r_iconst 0 d_S_taken_32 rfl ?_
        refine r_istore 4 [_, _, _, _, _, _, _] d_S_taken_33 (by decide) rfl ?_
        refine key _ _ ?_ ?_
        all_goals first
          | exact fun _ => ⟨Int32.not_lt.mp h1, Int32.not_le.mp h7⟩
          | exact fun _ => ⟨Int32.not_lt.mp h19, Int32.not_lt.mp h25⟩
          | exact fun z => absurd rfl z
      · refine r_iconst 1 d_S_taken_28 rfl ?_
        refine r_goto d_S_taken_29 ?_
        refine r_istore 4 [_, _, _, _, _, _, _] d_S_taken_33 (by decide) rfl ?_
        refine key _ _ ?_ ?_
        all_goals first
          | exact fun _ => ⟨Int32.not_lt.mp h1, Int32.not_le.mp h7⟩
          | exact fun _ => ⟨Int32.not_lt.mp h19, Int32.not_lt.mp h25⟩
          | exact fun z => absurd rfl z
  · refine r_iload_n 2 d_S_taken_4 rfl rfl ?_
    refine r_bipush (6) d_S_taken_5 (by decide) ?_
    refine r_icmp_ge d_S_taken_7 (fun h7 => ?_) (fun h7 => ?_)
    · refine r_iconst 0 d_S_taken_14 rfl ?_
      refine r_istore_n 3 [_, _, _, _, _, _, _] d_S_taken_15 rfl (by decide) rfl ?_
      refine r_iload_n 2 d_S_taken_16 rfl rfl ?_
      refine r_bipush (10) d_S_taken_17 (by decide) ?_
      refine r_icmp_lt d_S_taken_19 (fun h19 => ?_) (fun h19 => ?_)
      · refine r_iconst 0 d_S_taken_32 rfl ?_
        refine r_istore 4 [_, _, _, _, _, _, _] d_S_taken_33 (by decide) rfl ?_
        refine key _ _ ?_ ?_
        all_goals first
          | exact fun _ => ⟨Int32.not_lt.mp h1, Int32.not_le.mp h7⟩
          | exact fun _ => ⟨Int32.not_lt.mp h19, Int32.not_lt.mp h25⟩
          | exact fun z => absurd rfl z
      · refine r_iload_n 2 d_S_taken_22 rfl rfl ?_
        refine r_bipush (13) d_S_taken_23 (by decide) ?_
        refine r_icmp_gt d_S_taken_25 (fun h25 => ?_) (fun h25 => ?_)
        · refine r_iconst 0 d_S_taken_32 rfl ?_
          refine r_istore 4 [_, _, _, _, _, _, _] d_S_taken_33 (by decide) rfl ?_
          refine key _ _ ?_ ?_
          all_goals first
            | exact fun _ => ⟨Int32.not_lt.mp h1, Int32.not_le.mp h7⟩
            | exact fun _ => ⟨Int32.not_lt.mp h19, Int32.not_lt.mp h25⟩
            | exact fun z => absurd rfl z
        · refine r_iconst 1 d_S_taken_28 rfl ?_
          refine r_goto d_S_taken_29 ?_
          refine r_istore 4 [_, _, _, _, _, _, _] d_S_taken_33 (by decide) rfl ?_
          refine key _ _ ?_ ?_
          all_goals first
            | exact fun _ => ⟨Int32.not_lt.mp h1, Int32.not_le.mp h7⟩
            | exact fun _ => ⟨Int32.not_lt.mp h19, Int32.not_lt.mp h25⟩
            | exact fun z => absurd rfl z
    · refine r_iconst 1 d_S_taken_10 rfl ?_
      refine r_goto d_S_taken_11 ?_
      refine r_istore_n 3 [_, _, _, _, _, _, _] d_S_taken_15 rfl (by decide) rfl ?_
      refine r_iload_n 2 d_S_taken_16 rfl rfl ?_
      refine r_bipush (10) d_S_taken_17 (by decide) ?_
      refine r_icmp_lt d_S_taken_19 (fun h19 => ?_) (fun h19 => ?_)
      · refine r_iconst 0 d_S_taken_32 rfl ?_
        refine r_istore 4 [_, _, _, _, _, _, _] d_S_taken_33 (by decide) rfl ?_
        refine key _ _ ?_ ?_
        all_goals first
          | exact fun _ => ⟨Int32.not_lt.mp h1, Int32.not_le.mp h7⟩
          | exact fun _ => ⟨Int32.not_lt.mp h19, Int32.not_lt.mp h25⟩
          | exact fun z => absurd rfl z
      · refine r_iload_n 2 d_S_taken_22 rfl rfl ?_
        refine r_bipush (13) d_S_taken_23 (by decide) ?_
        refine r_icmp_gt d_S_taken_25 (fun h25 => ?_) (fun h25 => ?_)
        · refine r_iconst 0 d_S_taken_32 rfl ?_
          refine r_istore 4 [_, _, _, _, _, _, _] d_S_taken_33 (by decide) rfl ?_
          refine key _ _ ?_ ?_
          all_goals first
            | exact fun _ => ⟨Int32.not_lt.mp h1, Int32.not_le.mp h7⟩
            | exact fun _ => ⟨Int32.not_lt.mp h19, Int32.not_lt.mp h25⟩
            | exact fun z => absurd rfl z
        · refine r_iconst 1 d_S_taken_28 rfl ?_
          refine r_goto d_S_taken_29 ?_
          refine r_istore 4 [_, _, _, _, _, _, _] d_S_taken_33 (by decide) rfl ?_
          refine key _ _ ?_ ?_
          all_goals first
            | exact fun _ => ⟨Int32.not_lt.mp h1, Int32.not_le.mp h7⟩
            | exact fun _ => ⟨Int32.not_lt.mp h19, Int32.not_lt.mp h25⟩
            | exact fun z => absurd rfl z
-- a SHELF with a row
set_option maxHeartbeats 400000 in
theorem c_S_taken_row {j : Nat} (hj : j < 4) (a : Int32) (ha : isAs a) (μ : Me) (hr : ¬ μ.1 (78 + 1 * j) 1 = -1) : CtI m_S_taken 1 [.ref 0, .int (nI j), .int a] μ (if (10 ≤ a ∧ a ≤ 13) ∧ μ.1 (78 + 1 * j) 1 = a - 10 then μ.1 (78 + 1 * j) 2 else -13) μ := by
  refine Ct.of (ls := [.ref 0, .int (nI j), .int a, flr, flr, flr, flr]) rfl (Nat.le_of_ble_eq_true rfl) rfl (fun X => ?_)
  have s0 : shp[78 + 1 * j]? = some (.inl (8, [0, 0, 0])) := isSf_s j hj
  have key : ∀ u v : Int32, (u = 0 → ¬ (0 ≤ a ∧ a < 6)) → (v = 0 ↔ ¬ (10 ≤ a ∧ a ≤ 13)) → Wa X m_S_taken 1 35 [.ref 0, .int (nI j), .int a, .int u, .int v, flr, flr] [] μ (fun r μ' => r = some (.int (if (10 ≤ a ∧ a ≤ 13) ∧ μ.1 (78 + 1 * j) 1 = a - 10 then μ.1 (78 + 1 * j) 2 else -13)) ∧ μ' = μ) := by
    intro u v hu hv
    have k53 : Wa X m_S_taken 1 53 [.ref 0, .int (nI j), .int a, .int u, .int v, flr, flr] [] μ (fun r μ' => r = some (.int (if (10 ≤ a ∧ a ≤ 13) ∧ μ.1 (78 + 1 * j) 1 = a - 10 then μ.1 (78 + 1 * j) 2 else -13)) ∧ μ' = μ) := by
      refine r_aload_n 0 d_S_taken_53 rfl rfl ?_
      refine r_getR fl_S_80 (by first | with_reducible assumption | rfl) rfl d_S_taken_54 ?_
      refine r_iload_n 1 d_S_taken_57 rfl rfl ?_
      refine r_aald5N (by first | with_reducible assumption | rfl) (by decide) (by first | with_reducible assumption | omega | decide | assumption) d_S_taken_58 ?_
      refine r_astore 5 [_, _, _, _, _, _, _] d_S_taken_59 (by decide) rfl ?_
      refine r_aload 5 d_S_taken_61 rfl ?_
      refine r_callVi (c_Shelf_holdsRow (isSf_s j hj) _) lk_S_358 (by first | with_reducible assumption | rfl) d_S_taken_63 rfl rfl (Nat.le_of_ble_eq_true rfl) (by decide) ?_
      refine r_if_eq d_S_taken_66 (fun h66 => absurd h66 (fun z => bz_np z hr)) (fun h66 => ?_)
      refine r_iload 4 d_S_taken_69 rfl ?_
      refine r_if_eq d_S_taken_71 (fun h71 => ?_) (fun h71 => ?_)
      · refine r_bipush (-13) d_S_taken_94 (by decide) ?_
        refine r_iret .int d_S_taken_96 rfl rfl ?_
        refine ⟨?_, rfl⟩
        first
          | rw [if_neg (fun z => hv.mp h71 z.1)]
          | rw [if_neg (fun z => h83 z.2)]
          | rw [if_pos ⟨Classical.not_not.mp (fun z => h71 (hv.mpr z)), h83⟩]
      · refine r_aload 5 d_S_taken_74 rfl ?_
        refine r_getI fl_S_361 (by first | with_reducible assumption | rfl) rfl d_S_taken_76 ?_
        refine r_iload_n 2 d_S_taken_79 rfl rfl ?_
        refine r_bipush (10) d_S_taken_80 (by decide) ?_
        refine r_isub d_S_taken_82 ?_
        refine r_icmp_ne d_S_taken_83 (fun h83 => ?_) (fun h83 => ?_)
        · refine r_bipush (-13) d_S_taken_94 (by decide) ?_
          refine r_iret .int d_S_taken_96 rfl rfl ?_
          refine ⟨?_, rfl⟩
          first
            | rw [if_neg (fun z => hv.mp h71 z.1)]
            | rw [if_neg (fun z => h83 z.2)]
            | rw [if_pos ⟨Classical.not_not.mp (fun z => h71 (hv.mpr z)), h83⟩]
        · refine r_aload 5 d_S_taken_86 rfl ?_
          refine r_getI fl_S_362 (by first | with_reducible assumption | rfl) rfl d_S_taken_88 ?_
          refine r_goto d_S_taken_91 ?_
          refine r_iret .int d_S_taken_96 rfl rfl ?_
          refine ⟨?_, rfl⟩
          first
            | rw [if_neg (fun z => hv.mp h71 z.1)]
            | rw [if_neg (fun z => h83 z.2)]
            | rw [if_pos ⟨Classical.not_not.mp (fun z => h71 (hv.mpr z)), h83⟩]
    refine r_iload_n 1 d_S_taken_35 rfl rfl ?_
    refine r_callSi (c_S_isShelf _ _) lk_S_345 d_S_taken_36 rfl rfl (Nat.le_of_ble_eq_true rfl) (by decide) ?_
    refine r_if_eq d_S_taken_39 (fun h39 => absurd h39 (fun z => bz_np z (f4_yes hj))) (fun h39 => ?_)
    refine r_iload_n 3 d_S_taken_42 rfl rfl ?_
    refine r_if_ne d_S_taken_43 (fun h43 => ?_) (fun h43 => ?_)
    · exact k53
    · refine r_iload 4 d_S_taken_46 rfl ?_
      refine r_if_ne d_S_taken_48 (fun h48 => ?_) (fun h48 => ?_)
      · exact k53
      · exact absurd ha (fun z => z.elim (hu h43) (hv.mp h48))
  refine r_iload_n 2 d_S_taken_0 rfl rfl ?_
  refine r_if_lt d_S_taken_1 (fun h1 => ?_) (fun h1 => ?_)
  · refine r_iconst 0 d_S_taken_14 rfl ?_
    refine r_istore_n 3 [_, _, _, _, _, _, _] d_S_taken_15 rfl (by decide) rfl ?_
    refine r_iload_n 2 d_S_taken_16 rfl rfl ?_
    refine r_bipush (10) d_S_taken_17 (by decide) ?_
    refine r_icmp_lt d_S_taken_19 (fun h19 => ?_) (fun h19 => ?_)
    · refine r_iconst 0 d_S_taken_32 rfl ?_
      refine r_istore 4 [_, _, _, _, _, _, _] d_S_taken_33 (by decide) rfl ?_
      refine key _ _ ?_ ?_
      all_goals first
        | exact fun z => absurd z (by decide)
        | exact ⟨fun z => absurd z (by decide), fun z => absurd ⟨Int32.not_lt.mp h19, Int32.not_lt.mp h25⟩ z⟩
        | exact ⟨fun _ z => absurd z.1 (Int32.not_le.mpr h19), fun _ => rfl⟩
        | exact ⟨fun _ z => absurd z.2 (Int32.not_le.mpr h25), fun _ => rfl⟩
        | exact fun _ z => absurd z.1 (Int32.not_le.mpr h1)
        | exact fun _ z => absurd z.2 (Int32.not_lt.mpr h7)
    · refine r_iload_n 2 d_S_taken_22 rfl rfl ?_
      refine r_bipush (13) d_S_taken_23 (by decide) ?_
      refine r_icmp_gt d_S_taken_25 (fun h25 => ?_) (fun h25 => ?_)
      · refine r_iconst 0 d_S_taken_32 rfl ?_
        refine r_istore 4 [_, _, _, _, _, _, _] d_S_taken_33 (by decide) rfl ?_
        refine key _ _ ?_ ?_
        all_goals first
          | exact fun z => absurd z (by decide)
          | exact ⟨fun z => absurd z (by decide), fun z => absurd ⟨Int32.not_lt.mp h19, Int32.not_lt.mp h25⟩ z⟩
          | exact ⟨fun _ z => absurd z.1 (Int32.not_le.mpr h19), fun _ => rfl⟩
          | exact ⟨fun _ z => absurd z.2 (Int32.not_le.mpr h25), fun _ => rfl⟩
          | exact fun _ z => absurd z.1 (Int32.not_le.mpr h1)
          | exact fun _ z => absurd z.2 (Int32.not_lt.mpr h7)
      · refine r_iconst 1 d_S_taken_28 rfl ?_
        refine r_goto d_S_taken_29 ?_
        refine r_istore 4 [_, _, _, _, _, _, _] d_S_taken_33 (by decide) rfl ?_
        refine key _ _ ?_ ?_
        all_goals first
          | exact fun z => absurd z (by decide)
          | exact ⟨fun z => absurd z (by decide), fun z => absurd ⟨Int32.not_lt.mp h19, Int32.not_lt.mp h25⟩ z⟩
          | exact ⟨fun _ z => absurd z.1 (Int32.not_le.mpr h19), fun _ => rfl⟩
          | exact ⟨fun _ z => absurd z.2 (Int32.not_le.mpr h25), fun _ => rfl⟩
          | exact fun _ z => absurd z.1 (Int32.not_le.mpr h1)
          | exact fun _ z => absurd z.2 (Int32.not_lt.mpr h7)
  · refine r_iload_n 2 d_S_taken_4 rfl rfl ?_
    refine r_bipush (6) d_S_taken_5 (by decide) ?_
    refine r_icmp_ge d_S_taken_7 (fun h7 => ?_) (fun h7 => ?_)
    · refine r_iconst 0 d_S_taken_14 rfl ?_
      refine r_istore_n 3 [_, _, _, _, _, _, _] d_S_taken_15 rfl (by decide) rfl ?_
      refine r_iload_n 2 d_S_taken_16 rfl rfl ?_
      refine r_bipush (10) d_S_taken_17 (by decide) ?_
      refine r_icmp_lt d_S_taken_19 (fun h19 => ?_) (fun h19 => ?_)
      · refine r_iconst 0 d_S_taken_32 rfl ?_
        refine r_istore 4 [_, _, _, _, _, _, _] d_S_taken_33 (by decide) rfl ?_
        refine key _ _ ?_ ?_
        all_goals first
          | exact fun z => absurd z (by decide)
          | exact ⟨fun z => absurd z (by decide), fun z => absurd ⟨Int32.not_lt.mp h19, Int32.not_lt.mp h25⟩ z⟩
          | exact ⟨fun _ z => absurd z.1 (Int32.not_le.mpr h19), fun _ => rfl⟩
          | exact ⟨fun _ z => absurd z.2 (Int32.not_le.mpr h25), fun _ => rfl⟩
          | exact fun _ z => absurd z.1 (Int32.not_le.mpr h1)
          | exact fun _ z => absurd z.2 (Int32.not_lt.mpr h7)
      · refine r_iload_n 2 d_S_taken_22 rfl rfl ?_
        refine r_bipush (13) d_S_taken_23 (by decide) ?_
        refine r_icmp_gt d_S_taken_25 (fun h25 => ?_) (fun h25 => ?_)
        · refine r_iconst 0 d_S_taken_32 rfl ?_
          refine r_istore 4 [_, _, _, _, _, _, _] d_S_taken_33 (by decide) rfl ?_
          refine key _ _ ?_ ?_
          all_goals first
            | exact fun z => absurd z (by decide)
            | exact ⟨fun z => absurd z (by decide), fun z => absurd ⟨Int32.not_lt.mp h19, Int32.not_lt.mp h25⟩ z⟩
            | exact ⟨fun _ z => absurd z.1 (Int32.not_le.mpr h19), fun _ => rfl⟩
            | exact ⟨fun _ z => absurd z.2 (Int32.not_le.mpr h25), fun _ => rfl⟩
            | exact fun _ z => absurd z.1 (Int32.not_le.mpr h1)
            | exact fun _ z => absurd z.2 (Int32.not_lt.mpr h7)
        · refine r_iconst 1 d_S_taken_28 rfl ?_
          refine r_goto d_S_taken_29 ?_
          refine r_istore 4 [_, _, _, _, _, _, _] d_S_taken_33 (by decide) rfl ?_
          refine key _ _ ?_ ?_
          all_goals first
            | exact fun z => absurd z (by decide)
            | exact ⟨fun z => absurd z (by decide), fun z => absurd ⟨Int32.not_lt.mp h19, Int32.not_lt.mp h25⟩ z⟩
            | exact ⟨fun _ z => absurd z.1 (Int32.not_le.mpr h19), fun _ => rfl⟩
            | exact ⟨fun _ z => absurd z.2 (Int32.not_le.mpr h25), fun _ => rfl⟩
            | exact fun _ z => absurd z.1 (Int32.not_le.mpr h1)
            | exact fun _ z => absurd z.2 (Int32.not_lt.mpr h7)
    · refine r_iconst 1 d_S_taken_10 rfl ?_
      refine r_goto d_S_taken_11 ?_
      refine r_istore_n 3 [_, _, _, _, _, _, _] d_S_taken_15 rfl (by decide) rfl ?_
      refine r_iload_n 2 d_S_taken_16 rfl rfl ?_
      refine r_bipush (10) d_S_taken_17 (by decide) ?_
      refine r_icmp_lt d_S_taken_19 (fun h19 => ?_) (fun h19 => ?_)
      · refine r_iconst 0 d_S_taken_32 rfl ?_
        refine r_istore 4 [_, _, _, _, _, _, _] d_S_taken_33 (by decide) rfl ?_
        refine key _ _ ?_ ?_
        all_goals first
          | exact fun z => absurd z (by decide)
          | exact ⟨fun z => absurd z (by decide), fun z => absurd ⟨Int32.not_lt.mp h19, Int32.not_lt.mp h25⟩ z⟩
          | exact ⟨fun _ z => absurd z.1 (Int32.not_le.mpr h19), fun _ => rfl⟩
          | exact ⟨fun _ z => absurd z.2 (Int32.not_le.mpr h25), fun _ => rfl⟩
          | exact fun _ z => absurd z.1 (Int32.not_le.mpr h1)
          | exact fun _ z => absurd z.2 (Int32.not_lt.mpr h7)
      · refine r_iload_n 2 d_S_taken_22 rfl rfl ?_
        refine r_bipush (13) d_S_taken_23 (by decide) ?_
        refine r_icmp_gt d_S_taken_25 (fun h25 => ?_) (fun h25 => ?_)
        · refine r_iconst 0 d_S_taken_32 rfl ?_
          refine r_istore 4 [_, _, _, _, _, _, _] d_S_taken_33 (by decide) rfl ?_
          refine key _ _ ?_ ?_
          all_goals first
            | exact fun z => absurd z (by decide)
            | exact ⟨fun z => absurd z (by decide), fun z => absurd ⟨Int32.not_lt.mp h19, Int32.not_lt.mp h25⟩ z⟩
            | exact ⟨fun _ z => absurd z.1 (Int32.not_le.mpr h19), fun _ => rfl⟩
            | exact ⟨fun _ z => absurd z.2 (Int32.not_le.mpr h25), fun _ => rfl⟩
            | exact fun _ z => absurd z.1 (Int32.not_le.mpr h1)
            | exact fun _ z => absurd z.2 (Int32.not_lt.mpr h7)
        · refine r_iconst 1 d_S_taken_28 rfl ?_
          refine r_goto d_S_taken_29 ?_
          refine r_istore 4 [_, _, _, _, _, _, _] d_S_taken_33 (by decide) rfl ?_
          refine key _ _ ?_ ?_
          all_goals first
            | exact fun z => absurd z (by decide)
            | exact ⟨fun z => absurd z (by decide), fun z => absurd ⟨Int32.not_lt.mp h19, Int32.not_lt.mp h25⟩ z⟩
            | exact ⟨fun _ z => absurd z.1 (Int32.not_le.mpr h19), fun _ => rfl⟩
            | exact ⟨fun _ z => absurd z.2 (Int32.not_le.mpr h25), fun _ => rfl⟩
            | exact fun _ z => absurd z.1 (Int32.not_le.mpr h1)
            | exact fun _ z => absurd z.2 (Int32.not_lt.mpr h7)
