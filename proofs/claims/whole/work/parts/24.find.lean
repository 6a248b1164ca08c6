/-- what one says: (said, how, seconds, by) -/
def findS (k a : Int32) (f : Nat → Int32) (p : Nat) (t g s : Int32) : Int32 × Int32 × Int32 × Int32 :=
  if onceB k a (f p) t g ≠ 0 then (prodS p, 0, takesS (feelS k a (f p) t), -9)
  else if 0 ≤ wayS k a f p t g then (prodS p, 1, takesS (feelS k a (f (wayS k a f p t g).toNatClampNeg) (t - stepS k)) + stepS k, wayS k a f p t g)
  else if 0 ≤ (ftS k a f p t 4).1 ∧ (k = 5 ∨ ¬ feelS k a (f (ftS k a f p t 4).1.toNatClampNeg) t < s) then (prodS (ftS k a f p t 4).1.toNatClampNeg, 2, t, (ftS k a f p t 4).1)
  else (-9, 3, t, -9)
theorem way_or {k a : Int32} {f : Nat → Int32} {p : Nat} {t g : Int32} (hp : p < 36) {x : Int32} (hx : wayS k a f p t g = x) (h : ¬ x < 0) : ∃ q, q < 36 ∧ x = nI q := by
  unfold wayS at hx
  split at hx
  · subst hx; exact absurd (by decide) h
  · split at hx
    · exact next_of hp 0 (by decide) hx h
    · split at hx
      · exact next_of hp 2 (by decide) hx h
      · subst hx; exact absurd (by decide) h
theorem ft_or {k a : Int32} {f : Nat → Int32} {p : Nat} {t : Int32} (hp : p < 36) : ∀ i, i ≤ 4 → ∀ {x : Int32}, (ftS k a f p t i).1 = x → ¬ x < 0 → ∃ q, q < 36 ∧ x = nI q
  | 0, _, x, hx, h => by rw [ftS] at hx; subst hx; exact absurd (by decide) h
  | i + 1, hi, x, hx, h => by
    rw [ftS] at hx
    split at hx
    · exact ft_or hp i (by omega) hx h
    · split at hx
      · exact next_of hp i (by omega) hx h
      · exact ft_or hp i (by omega) hx h
set_option maxHeartbeats 400000 in
theorem c_Answer_find {c p cl : Nat} (hc : isL c) (hp : p < 36) (hL : shp[cl]? = some (.inr (0, 3, 0, 0))) (t : Int32) (μ : Me) : CtV m_Answer_find 4 [.ref 57, .ref c, .int (nI p), .int t, .ref cl] μ (ansM μ (findS (μ.1 c 0) (μ.1 c 1) (μ.1 (c + 1)) p t (μ.1 cl 1) (μ.1 cl 2))) := by
  refine Ct.of (ls := [.ref 57, .ref c, .int (nI p), .int t, .ref cl, flr, flr, flr]) rfl (Nat.le_of_ble_eq_true rfl) rfl (fun X => ?_)
  obtain ⟨s9, s0, s1, s2, s3⟩ := id hc
  generalize hw : wayS (μ.1 c 0) (μ.1 c 1) (μ.1 (c + 1)) p t (μ.1 cl 1) = w
  generalize hz : (ftS (μ.1 c 0) (μ.1 c 1) (μ.1 (c + 1)) p t 4).1 = z
  refine r_aload_n 1 d_Answer_find_0 rfl rfl ?_
  refine r_iload_n 2 d_Answer_find_1 rfl rfl ?_
  refine r_iload_n 3 d_Answer_find_2 rfl rfl ?_
  refine r_aload 4 d_Answer_find_3 rfl ?_
  refine r_iconst 1 d_Answer_find_5 rfl ?_
  refine r_ialdN (j := 1) (by first | with_reducible assumption | rfl) (by first | with_reducible assumption | omega | decide | assumption) d_Answer_find_6 ?_
  refine r_callVi (c_Learner_isAtOnce hc hp _ _ _) lk_Answer_24 (by first | with_reducible assumption | rfl) d_Answer_find_7 rfl rfl (Nat.le_of_ble_eq_true rfl) (by decide) ?_
  refine r_if_eq d_Answer_find_10 (fun h10 => ?_) (fun h10 => ?_)
  · refine r_aload_n 1 d_Answer_find_31 rfl rfl ?_
    refine r_iload_n 2 d_Answer_find_32 rfl rfl ?_
    refine r_iload_n 3 d_Answer_find_33 rfl rfl ?_
    refine r_aload 4 d_Answer_find_34 rfl ?_
    refine r_iconst 1 d_Answer_find_36 rfl ?_
    refine r_ialdN (j := 1) (by first | with_reducible assumption | rfl) (by first | with_reducible assumption | omega | decide | assumption) d_Answer_find_37 ?_
    refine r_callSi (c_Answer_wayRound hc hp _ _ _) lk_Answer_42 d_Answer_find_38 rfl rfl (Nat.le_of_ble_eq_true rfl) (by decide) ?_
    rw [hw]
    refine r_istore 5 [_, _, _, _, _, _, _, _] d_Answer_find_41 (by decide) rfl ?_
    refine r_iload 5 d_Answer_find_43 rfl ?_
    refine r_if_lt d_Answer_find_45 (fun h45 => ?_) (fun h45 => ?_)
    · refine r_aload_n 1 d_Answer_find_81 rfl rfl ?_
      refine r_iload_n 2 d_Answer_find_82 rfl rfl ?_
      refine r_iload_n 3 d_Answer_find_83 rfl rfl ?_
      refine r_callSi (c_Answer_firmestTied hc hp _ _) lk_Answer_50 d_Answer_find_84 rfl rfl (Nat.le_of_ble_eq_true rfl) (by decide) ?_
      rw [hz]
      refine r_istore 6 [_, _, _, _, _, _, _, _] d_Answer_find_87 (by decide) rfl ?_
      refine r_iload 6 d_Answer_find_89 rfl ?_
      refine r_if_lt d_Answer_find_91 (fun h91 => ?_) (fun h91 => ?_)
      · refine r_iconst 0 d_Answer_find_120 rfl ?_
        refine r_istore 7 [_, _, _, _, _, _, _, _] d_Answer_find_121 (by decide) rfl ?_
        refine r_iload 7 d_Answer_find_123 rfl ?_
        refine r_if_eq d_Answer_find_125 (fun h125 => ?_) (fun h125 => absurd rfl h125)
        refine r_aload_n 0 d_Answer_find_144 rfl rfl ?_
        refine r_bipush (-9) d_Answer_find_145 (by decide) ?_
        refine r_iconst 3 d_Answer_find_147 rfl ?_
        refine r_iload_n 3 d_Answer_find_148 rfl rfl ?_
        refine r_bipush (-9) d_Answer_find_149 (by decide) ?_
        refine r_callVv (c_Answer_become _ _ _ _ _) lk_Answer_38 (by first | with_reducible assumption | rfl) d_Answer_find_151 rfl rfl (Nat.le_of_ble_eq_true rfl) (by decide) ?_
        refine r_ret d_Answer_find_154 rfl ?_
        refine ⟨rfl, ?_⟩
        rw [findS, if_neg (fun z => z h10), hw, if_neg (Int32.not_le.mpr h45), hz, if_neg]
        first
          | exact fun z => absurd z.1 (Int32.not_le.mpr h91)
          | (rw [cl36 zhq (by decide)]; exact fun z => z.2.elim h99 (fun y => y h113))
      · obtain ⟨zq, zhq, e⟩ := ft_or hp 4 (by decide) hz h91
        subst e
        refine r_aload_n 1 d_Answer_find_94 rfl rfl ?_
        refine r_getI fl_Answer_54 (by first | with_reducible assumption | rfl) rfl d_Answer_find_95 ?_
        refine r_iconst 5 d_Answer_find_98 rfl ?_
        refine r_icmp_eq d_Answer_find_99 (fun h99 => ?_) (fun h99 => ?_)
        · refine r_iconst 1 d_Answer_find_116 rfl ?_
          refine r_goto d_Answer_find_117 ?_
          refine r_istore 7 [_, _, _, _, _, _, _, _] d_Answer_find_121 (by decide) rfl ?_
          refine r_iload 7 d_Answer_find_123 rfl ?_
          refine r_if_eq d_Answer_find_125 (fun h125 => absurd h125 (by decide)) (fun h125 => ?_)
          refine r_aload_n 0 d_Answer_find_128 rfl rfl ?_
          refine r_iload 6 d_Answer_find_129 rfl ?_
          refine r_callSNi (c_S_product zq zhq _) lk_Answer_30 d_Answer_find_131 rfl rfl (Nat.le_of_ble_eq_true rfl) (by decide) ?_
          refine r_iconst 2 d_Answer_find_134 rfl ?_
          refine r_iload_n 3 d_Answer_find_135 rfl rfl ?_
          refine r_iload 6 d_Answer_find_136 rfl ?_
          refine r_callVv (c_Answer_become _ _ _ _ _) lk_Answer_38 (by first | with_reducible assumption | rfl) d_Answer_find_138 rfl rfl (Nat.le_of_ble_eq_true rfl) (by decide) ?_
          refine r_goto d_Answer_find_141 ?_
          refine r_ret d_Answer_find_154 rfl ?_
          refine ⟨rfl, ?_⟩
          rw [findS, if_neg (fun z => z h10), hw, if_neg (Int32.not_le.mpr h45), hz, cl36 zhq (by decide), if_pos ⟨nI_pos' (by omega), by first | exact Or.inl h99 | exact Or.inr h113⟩]
        · refine r_aload_n 1 d_Answer_find_102 rfl rfl ?_
          refine r_iload 6 d_Answer_find_103 rfl ?_
          refine r_iload_n 3 d_Answer_find_105 rfl rfl ?_
          refine r_callVi (c_Learner_feeling hc zhq _ _) lk_Answer_57 (by first | with_reducible assumption | rfl) d_Answer_find_106 rfl rfl (Nat.le_of_ble_eq_true rfl) (by decide) ?_
          refine r_aload 4 d_Answer_find_109 rfl ?_
          refine r_iconst 2 d_Answer_find_111 rfl ?_
          refine r_ialdN (j := 2) (by first | with_reducible assumption | rfl) (by first | with_reducible assumption | omega | decide | assumption) d_Answer_find_112 ?_
          refine r_icmp_lt d_Answer_find_113 (fun h113 => ?_) (fun h113 => ?_)
          · refine r_iconst 0 d_Answer_find_120 rfl ?_
            refine r_istore 7 [_, _, _, _, _, _, _, _] d_Answer_find_121 (by decide) rfl ?_
            refine r_iload 7 d_Answer_find_123 rfl ?_
            refine r_if_eq d_Answer_find_125 (fun h125 => ?_) (fun h125 => absurd rfl h125)
            refine r_aload_n 0 d_Answer_find_144 rfl rfl ?_
            refine r_bipush (-9) d_Answer_find_145 (by decide) ?_
            refine r_iconst 3 d_Answer_find_147 rfl ?_
            refine r_iload_n 3 d_Answer_find_148 rfl rfl ?_
            refine r_bipush (-9) d_Answer_find_149 (by decide) ?_
            refine r_callVv (c_Answer_become _ _ _ _ _) lk_Answer_38 (by first | with_reducible assumption | rfl) d_Answer_find_151 rfl rfl (Nat.le_of_ble_eq_true rfl) (by decide) ?_
            refine r_ret d_Answer_find_154 rfl ?_
            refine ⟨rfl, ?_⟩
            rw [findS, if_neg (fun z => z h10), hw, if_neg (Int32.not_le.mpr h45), hz, if_neg]
            first
              | exact fun z => absurd z.1 (Int32.not_le.mpr h91)
              | (rw [cl36 zhq (by decide)]; exact fun z => z.2.elim h99 (fun y => y h113))
          · refine r_iconst 1 d_Answer_find_116 rfl ?_
            refine r_goto d_Answer_find_117 ?_
            refine r_istore 7 [_, _, _, _, _, _, _, _] d_Answer_find_121 (by decide) rfl ?_
            refine r_iload 7 d_Answer_find_123 rfl ?_
            refine r_if_eq d_Answer_find_125 (fun h125 => absurd h125 (by decide)) (fun h125 => ?_)
            refine r_aload_n 0 d_Answer_find_128 rfl rfl ?_
            refine r_iload 6 d_Answer_find_129 rfl ?_
            refine r_callSNi (c_S_product zq zhq _) lk_Answer_30 d_Answer_find_131 rfl rfl (Nat.le_of_ble_eq_true rfl) (by decide) ?_
            refine r_iconst 2 d_Answer_find_134 rfl ?_
            refine r_iload_n 3 d_Answer_find_135 rfl rfl ?_
            refine r_iload 6 d_Answer_find_136 rfl ?_
            refine r_callVv (c_Answer_become _ _ _ _ _) lk_Answer_38 (by first | with_reducible assumption | rfl) d_Answer_find_138 rfl rfl (Nat.le_of_ble_eq_true rfl) (by decide) ?_
            refine r_goto d_Answer_find_141 ?_
            refine r_ret d_Answer_find_154 rfl ?_
            refine ⟨rfl, ?_⟩
            rw [findS, if_neg (fun z => z h10), hw, if_neg (Int32.not_le.mpr h45), hz, cl36 zhq (by decide), if_pos ⟨nI_pos' (by omega), by first | exact Or.inl h99 | exact Or.inr h113⟩]
    · obtain ⟨zq, zhq, e⟩ := way_or hp hw h45
      subst e
      refine r_iload_n 3 d_Answer_find_48 rfl rfl ?_
      refine r_aload_n 1 d_Answer_find_49 rfl rfl ?_
      refine r_callVi (c_Learner_step hc _) lk_Answer_46 (by first | with_reducible assumption | rfl) d_Answer_find_50 rfl rfl (Nat.le_of_ble_eq_true rfl) (by decide) ?_
      refine r_isub d_Answer_find_53 ?_
      refine r_istore 6 [_, _, _, _, _, _, _, _] d_Answer_find_54 (by decide) rfl ?_
      refine r_aload_n 0 d_Answer_find_56 rfl rfl ?_
      refine r_iload_n 2 d_Answer_find_57 rfl rfl ?_
      refine r_callSNi (c_S_product p hp _) lk_Answer_30 d_Answer_find_58 rfl rfl (Nat.le_of_ble_eq_true rfl) (by decide) ?_
      refine r_iconst 1 d_Answer_find_61 rfl ?_
      refine r_aload_n 1 d_Answer_find_62 rfl rfl ?_
      refine r_iload 5 d_Answer_find_63 rfl ?_
      refine r_iload 6 d_Answer_find_65 rfl ?_
      refine r_callVi (c_Learner_takes hc zhq _ _) lk_Answer_34 (by first | with_reducible assumption | rfl) d_Answer_find_67 rfl rfl (Nat.le_of_ble_eq_true rfl) (by decide) ?_
      refine r_aload_n 1 d_Answer_find_70 rfl rfl ?_
      refine r_callVi (c_Learner_step hc _) lk_Answer_46 (by first | with_reducible assumption | rfl) d_Answer_find_71 rfl rfl (Nat.le_of_ble_eq_true rfl) (by decide) ?_
      refine r_iadd d_Answer_find_74 ?_
      refine r_iload 5 d_Answer_find_75 rfl ?_
      refine r_callVv (c_Answer_become _ _ _ _ _) lk_Answer_38 (by first | with_reducible assumption | rfl) d_Answer_find_77 rfl rfl (Nat.le_of_ble_eq_true rfl) (by decide) ?_
      refine r_ret d_Answer_find_80 rfl ?_
      refine ⟨rfl, ?_⟩
      rw [findS, if_neg (fun z => z h10), hw, if_pos (nI_pos' (by omega)), cl36 zhq (by decide)]
  · refine r_aload_n 0 d_Answer_find_13 rfl rfl ?_
    refine r_iload_n 2 d_Answer_find_14 rfl rfl ?_
    refine r_callSNi (c_S_product p hp _) lk_Answer_30 d_Answer_find_15 rfl rfl (Nat.le_of_ble_eq_true rfl) (by decide) ?_
    refine r_iconst 0 d_Answer_find_18 rfl ?_
    refine r_aload_n 1 d_Answer_find_19 rfl rfl ?_
    refine r_iload_n 2 d_Answer_find_20 rfl rfl ?_
    refine r_iload_n 3 d_Answer_find_21 rfl rfl ?_
    refine r_callVi (c_Learner_takes hc hp _ _) lk_Answer_34 (by first | with_reducible assumption | rfl) d_Answer_find_22 rfl rfl (Nat.le_of_ble_eq_true rfl) (by decide) ?_
    refine r_bipush (-9) d_Answer_find_25 (by decide) ?_
    refine r_callVv (c_Answer_become _ _ _ _ _) lk_Answer_38 (by first | with_reducible assumption | rfl) d_Answer_find_27 rfl rfl (Nat.le_of_ble_eq_true rfl) (by decide) ?_
    refine r_ret d_Answer_find_30 rfl ?_
    refine ⟨rfl, ?_⟩
    rw [findS, if_pos h10]
