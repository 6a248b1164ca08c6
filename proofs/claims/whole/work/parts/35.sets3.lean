def cdF (a b : Nat) : Nat → Nat
  | 0 => 1
  | d + 1 => if d + 1 ≤ 1 then 1 else if a % (d + 1) = 0 ∧ b % (d + 1) = 0 then d + 1 else cdF a b d
set_option maxHeartbeats 400000 in
theorem c_S_commonDivisor {a b : Nat} (ha : a < 2 ^ 31) (hb : b < 2 ^ 31) (μ : Me) : CtI m_S_commonDivisor 0 [.int (nI a), .int (nI b)] μ (nI (cdF a b b)) μ := by
  refine Ct.of (ls := [.int (nI a), .int (nI b), flr]) rfl (Nat.le_of_ble_eq_true rfl) rfl (fun X => ?_)
  refine r_iload_n 1 d_S_commonDivisor_0 rfl rfl ?_
  refine r_istore_n 2 [_, _, _] d_S_commonDivisor_1 rfl (by decide) rfl ?_
  have key : ∀ dd : Nat, dd ≤ b → cdF a b dd = cdF a b b → Wa X m_S_commonDivisor 0 2 [.int (nI a), .int (nI b), .int (nI dd)] [] μ (fun r μ' => r = some (.int (nI (cdF a b b))) ∧ μ' = μ) := by
    intro dd
    induction dd with
    | zero =>
      intro hd he
      refine r_iload_n 2 d_S_commonDivisor_2 rfl rfl ?_
      refine r_iconst 1 d_S_commonDivisor_3 rfl ?_
      refine r_icmp_le d_S_commonDivisor_4 (fun h4 => ?_) (fun h4 => absurd (by decide) h4)
      refine r_iconst 1 d_S_commonDivisor_27 rfl ?_
      refine r_iret .int d_S_commonDivisor_28 rfl rfl ?_
      exact ⟨by rw [← he]; rfl, rfl⟩
    | succ dd ih =>
      intro hd he
      refine r_iload_n 2 d_S_commonDivisor_2 rfl rfl ?_
      refine r_iconst 1 d_S_commonDivisor_3 rfl ?_
      refine r_icmp_le d_S_commonDivisor_4 (fun h4 => ?_) (fun h4 => ?_)
      · refine r_iconst 1 d_S_commonDivisor_27 rfl ?_
        refine r_iret .int d_S_commonDivisor_28 rfl rfl ?_
        have hle : dd + 1 ≤ 1 := n_le (a := dd + 1) (b := 1) h4 rfl rfl (by omega) (by decide)
        exact ⟨by rw [← he, cdF, if_pos hle]; rfl, rfl⟩
      · refine r_iload_n 0 d_S_commonDivisor_7 rfl rfl ?_
        refine r_iload_n 2 d_S_commonDivisor_8 rfl rfl ?_
        refine r_irem d_S_commonDivisor_9 (nI_ne0 (by omega) (by omega)) ?_
        rw [pk_rem ha (by omega) (by omega)]
        refine r_if_ne d_S_commonDivisor_10 (fun h10 => ?_) (fun h10 => ?_)
        · have hle : ¬ dd + 1 ≤ 1 := fun z => h4 (nI_le z (by decide))
          have hne : ¬ (a % (dd + 1) = 0 ∧ b % (dd + 1) = 0) := fun z => by first | exact h10 (by rw [z.1]; rfl) | exact h16 (by rw [z.2]; rfl)
          refine r_iinc 2 [_, _, _] (-1) d_S_commonDivisor_21 (by decide) (by decide) rfl rfl ?_
          refine r_goto d_S_commonDivisor_24 ?_
          refine Wa.eqL (show _ = [Value.int (nI a), .int (nI b), .int (nI dd)] by rw [pk_m1]; rfl) ?_
          exact ih (by omega) (by rw [← he, cdF, if_neg hle, if_neg hne])
        · refine r_iload_n 1 d_S_commonDivisor_13 rfl rfl ?_
          refine r_iload_n 2 d_S_commonDivisor_14 rfl rfl ?_
          refine r_irem d_S_commonDivisor_15 (nI_ne0 (by omega) (by omega)) ?_
          rw [pk_rem hb (by omega) (by omega)]
          refine r_if_ne d_S_commonDivisor_16 (fun h16 => ?_) (fun h16 => ?_)
          · have hle : ¬ dd + 1 ≤ 1 := fun z => h4 (nI_le z (by decide))
            have hne : ¬ (a % (dd + 1) = 0 ∧ b % (dd + 1) = 0) := fun z => by first | exact h10 (by rw [z.1]; rfl) | exact h16 (by rw [z.2]; rfl)
            refine r_iinc 2 [_, _, _] (-1) d_S_commonDivisor_21 (by decide) (by decide) rfl rfl ?_
            refine r_goto d_S_commonDivisor_24 ?_
            refine Wa.eqL (show _ = [Value.int (nI a), .int (nI b), .int (nI dd)] by rw [pk_m1]; rfl) ?_
            exact ih (by omega) (by rw [← he, cdF, if_neg hle, if_neg hne])
          · refine r_iload_n 2 d_S_commonDivisor_19 rfl rfl ?_
            refine r_iret .int d_S_commonDivisor_20 rfl rfl ?_
            have hle : ¬ dd + 1 ≤ 1 := fun z => h4 (nI_le z (by decide))
            have e1 : a % (dd + 1) = 0 := (nI_eq (a := a % (dd + 1)) (b := 0) (by have := Nat.mod_lt a (show 0 < dd + 1 by omega); omega) (by decide)).mp h10
            have e2 : b % (dd + 1) = 0 := (nI_eq (a := b % (dd + 1)) (b := 0) (by have := Nat.mod_lt b (show 0 < dd + 1 by omega); omega) (by decide)).mp h16
            exact ⟨by rw [← he, cdF, if_neg hle, if_pos ⟨e1, e2⟩], rfl⟩
  exact key b (Nat.le_refl _) rfl
def bitN (x : Int64) : Nat := (bc6 (bc5 (bc4 (bc3 (bc2 (bc1 x)))))).toInt32.toBitVec.toNat % 2 ^ 7
theorem bitS_n (x : Int64) : bitS x = nI (bitN x) := pk_and _ 7 (by decide)
theorem bitN_lt (x : Int64) : bitN x < 128 := Nat.mod_lt _ (by decide)
def abF (g : Nat → Int64) : Nat → Nat
  | 0 => 0
  | i + 1 => abF g i + bitN (g i)
theorem abF_le (g : Nat → Int64) : ∀ i, abF g i ≤ 128 * i
  | 0 => Nat.le_refl _
  | i + 1 => by
    have := abF_le g i
    have := bitN_lt (g i)
    rw [abF]
    omega
theorem knA_1 {μ : Me} {c c' : Nat} {t : Int32} (h : c' ≠ 57) : (knA μ c t).1 c' = μ.1 c' := ansM_ne h
def lknS (μ : Me) (t : Int32) (i : Nat) : Int64 := knS μ (8 + 4 * i) t
def oddM (μ : Me) (t : Int32) : Nat → Me := lastA μ (fun i => findS (μ.1 (8 + 4 * i) 0) (μ.1 (8 + 4 * i) 1) (μ.1 (8 + 4 * i + 1)) 35 t (μ.1 3 1) (μ.1 3 2))
set_option maxHeartbeats 400000 in
theorem c_S_odds_bad {t w : Int32} (hP : ¬ ((1 ≤ t ∧ t ≤ 9) ∧ 0 ≤ w ∧ w ≤ 1)) (μ : Me) : CtI m_S_odds 6 [.ref 0, .int t, .int w] μ (-1) μ := by
  refine Ct.of (ls := [.ref 0, .int t, .int w, flr, flr, flr]) rfl (Nat.le_of_ble_eq_true rfl) rfl (fun X => ?_)
  refine r_iload_n 1 d_S_odds_0 rfl rfl ?_
  refine r_callSi (c_S_isSeconds _ _) lk_S_190 d_S_odds_1 rfl rfl (Nat.le_of_ble_eq_true rfl) (by decide) ?_
  refine r_if_eq d_S_odds_4 (fun h4 => ?_) (fun h4 => ?_)
  · refine r_iconst (-1) d_S_odds_15 rfl ?_
    refine r_iret .int d_S_odds_16 rfl rfl ?_
    exact ⟨rfl, rfl⟩
  · refine r_iload_n 2 d_S_odds_7 rfl rfl ?_
    refine r_iconst 1 d_S_odds_8 rfl ?_
    refine r_callSi (c_S_isWithin _ _ _) lk_S_118 d_S_odds_9 rfl rfl (Nat.le_of_ble_eq_true rfl) (by decide) ?_
    refine r_if_ne d_S_odds_12 (fun h12 => absurd (bz_0.mpr (fun z => hP ⟨bz_p h4, z⟩)) h12) (fun h12 => ?_)
    refine r_iconst (-1) d_S_odds_15 rfl ?_
    refine r_iret .int d_S_odds_16 rfl rfl ?_
    exact ⟨rfl, rfl⟩
set_option maxHeartbeats 400000 in
theorem c_S_odds_none {t w : Int32} (hP : (1 ≤ t ∧ t ≤ 9) ∧ 0 ≤ w ∧ w ≤ 1) (μ : Me) (hct : μ.1 1 1 = nI 0) : CtI m_S_odds 6 [.ref 0, .int t, .int w] μ (-3) μ := by
  refine Ct.of (ls := [.ref 0, .int t, .int w, flr, flr, flr]) rfl (Nat.le_of_ble_eq_true rfl) rfl (fun X => ?_)
  refine r_iload_n 1 d_S_odds_0 rfl rfl ?_
  refine r_callSi (c_S_isSeconds _ _) lk_S_190 d_S_odds_1 rfl rfl (Nat.le_of_ble_eq_true rfl) (by decide) ?_
  refine r_if_eq d_S_odds_4 (fun h4 => absurd h4 (fun z => bz_np z hP.1)) (fun h4 => ?_)
  refine r_iload_n 2 d_S_odds_7 rfl rfl ?_
  refine r_iconst 1 d_S_odds_8 rfl ?_
  refine r_callSi (c_S_isWithin _ _ _) lk_S_118 d_S_odds_9 rfl rfl (Nat.le_of_ble_eq_true rfl) (by decide) ?_
  refine r_if_ne d_S_odds_12 (fun h12 => ?_) (fun h12 => absurd h12 (fun z => bz_np z hP.2))
  refine r_aload_n 0 d_S_odds_17 rfl rfl ?_
  refine r_getR fl_S_12 (by first | with_reducible assumption | rfl) rfl d_S_odds_18 ?_
  refine r_getI fl_S_122 (by first | with_reducible assumption | rfl) rfl d_S_odds_21 ?_
  refine r_if_ne d_S_odds_24 (fun h24 => absurd (by rw [hct]; rfl) h24) (fun h24 => ?_)
  refine r_bipush (-3) d_S_odds_27 (by decide) ?_
  refine r_iret .int d_S_odds_29 rfl rfl ?_
  exact ⟨rfl, rfl⟩
theorem cdF_pos (a b : Nat) : ∀ d, 0 < cdF a b d ∧ cdF a b d ≤ d + 1
  | 0 => by rw [cdF]; omega
  | d + 1 => by
    have := cdF_pos a b d
    rw [cdF]
    split
    · omega
    · split <;> omega
set_option maxHeartbeats 400000 in
theorem c_S_odds {t w : Int32} {m : Nat} (hP : (1 ≤ t ∧ t ≤ 9) ∧ 0 ≤ w ∧ w ≤ 1) (h0 : 0 < m) (hm : m ≤ 4) (μ : Me) (hct : μ.1 1 1 = nI m) : CtI m_S_odds 6 [.ref 0, .int t, .int w] μ (if w = 0 then nI (abF (lknS μ t) m / cdF (abF (lknS μ t) m) (m * 36) (m * 36)) else nI (m * 36 / cdF (abF (lknS μ t) m) (m * 36) (m * 36))) (oddM μ t m) := by
  refine Ct.of (ls := [.ref 0, .int t, .int w, flr, flr, flr]) rfl (Nat.le_of_ble_eq_true rfl) rfl (fun X => ?_)
  have e1 : ∀ i, (oddM μ t i).1 1 = μ.1 1 := fun i => lastA_ne (by decide) i
  have hab := abF_le (lknS μ t) m
  have hcd := cdF_pos (abF (lknS μ t) m) (m * 36) (m * 36)
  refine r_iload_n 1 d_S_odds_0 rfl rfl ?_
  refine r_callSi (c_S_isSeconds _ _) lk_S_190 d_S_odds_1 rfl rfl (Nat.le_of_ble_eq_true rfl) (by decide) ?_
  refine r_if_eq d_S_odds_4 (fun h4 => absurd h4 (fun z => bz_np z hP.1)) (fun h4 => ?_)
  refine r_iload_n 2 d_S_odds_7 rfl rfl ?_
  refine r_iconst 1 d_S_odds_8 rfl ?_
  refine r_callSi (c_S_isWithin _ _ _) lk_S_118 d_S_odds_9 rfl rfl (Nat.le_of_ble_eq_true rfl) (by decide) ?_
  refine r_if_ne d_S_odds_12 (fun h12 => ?_) (fun h12 => absurd h12 (fun z => bz_np z hP.2))
  refine r_aload_n 0 d_S_odds_17 rfl rfl ?_
  refine r_getR fl_S_12 (by first | with_reducible assumption | rfl) rfl d_S_odds_18 ?_
  refine r_getI fl_S_122 (by first | with_reducible assumption | rfl) rfl d_S_odds_21 ?_
  refine r_if_ne d_S_odds_24 (fun h24 => ?_) (fun h24 => absurd h24 (by rw [hct]; exact nI_ne0 h0 (by omega)))
  refine r_iconst 0 d_S_odds_30 rfl ?_
  refine r_istore_n 3 [_, _, _, _, _, _] d_S_odds_31 rfl (by decide) rfl ?_
  refine r_iconst 0 d_S_odds_32 rfl ?_
  refine r_istore 4 [_, _, _, _, _, _] d_S_odds_33 (by decide) rfl ?_
  have lp := lpN m (fun i (w1 : Nat) => Wa X m_S_odds 6 35 [.ref 0, .int t, .int w, .int (nI w1), .int (nI i), flr] [] (oddM μ t i) (fun r μ' => r = some (.int (if w = 0 then nI (abF (lknS μ t) m / cdF (abF (lknS μ t) m) (m * 36) (m * 36)) else nI (m * 36 / cdF (abF (lknS μ t) m) (m * 36) (m * 36)))) ∧ μ' = oddM μ t m)) (fun i w1 => w1 = abF (lknS μ t) i) ?_ 0 0 (Nat.zero_le _) rfl
  · exact lp
  · intro i w1 hi hw hk
    refine r_iload 4 d_S_odds_35 rfl ?_
    refine r_aload_n 0 d_S_odds_37 rfl rfl ?_
    refine r_getR fl_S_12 (by first | with_reducible assumption | rfl) rfl d_S_odds_38 ?_
    refine r_getI fl_S_122 (by first | with_reducible assumption | rfl) rfl d_S_odds_41 ?_
    refine r_icmp_ge d_S_odds_44 (fun h44 => ?_) (fun h44 => ?_)
    · have hge := n_le h44 (by rw [e1, hct]) rfl (by omega) (by omega)
      obtain rfl : i = m := by omega
      subst hw
      refine r_aload_n 0 d_S_odds_74 rfl rfl ?_
      refine r_getR fl_S_12 (by first | with_reducible assumption | rfl) rfl d_S_odds_75 ?_
      refine r_getI fl_S_122 (by first | with_reducible assumption | rfl) rfl d_S_odds_78 ?_
      refine r_bipush (36) d_S_odds_81 (by decide) ?_
      rw [e1, hct]
      refine r_imul d_S_odds_83 ?_
      rw [show nI i * 36 = nI (i * 36) from pk_mul i 36]
      refine r_istore 4 [_, _, _, _, _, _] d_S_odds_84 (by decide) rfl ?_
      refine r_iload_n 3 d_S_odds_86 rfl rfl ?_
      refine r_iload 4 d_S_odds_87 rfl ?_
      refine r_callSi (c_S_commonDivisor (by omega) (by omega) _) lk_S_246 d_S_odds_89 rfl rfl (Nat.le_of_ble_eq_true rfl) (by decide) ?_
      refine r_istore 5 [_, _, _, _, _, _] d_S_odds_92 (by decide) rfl ?_
      refine r_iload_n 2 d_S_odds_94 rfl rfl ?_
      refine r_if_ne d_S_odds_95 (fun h95 => ?_) (fun h95 => ?_)
      · refine r_iload 4 d_S_odds_102 rfl ?_
        refine r_iload 5 d_S_odds_104 rfl ?_
        refine r_idiv d_S_odds_106 (nI_ne0 hcd.1 (by omega)) ?_
        rw [pk_div (by omega) hcd.1 (by omega)]
        refine r_iret .int d_S_odds_107 rfl rfl ?_
        refine ⟨?_, rfl⟩
        first
          | rw [if_neg h95]
          | rw [if_pos h95]
      · refine r_iload_n 3 d_S_odds_98 rfl rfl ?_
        refine r_goto d_S_odds_99 ?_
        refine r_iload 5 d_S_odds_104 rfl ?_
        refine r_idiv d_S_odds_106 (nI_ne0 hcd.1 (by omega)) ?_
        rw [pk_div (by omega) hcd.1 (by omega)]
        refine r_iret .int d_S_odds_107 rfl rfl ?_
        refine ⟨?_, rfl⟩
        first
          | rw [if_neg h95]
          | rw [if_pos h95]
    · have hl : i < m := n_lt h44 (by rw [e1, hct]) rfl (by omega) (by omega)
      have hl4 : i < 4 := by omega
      refine r_iload_n 3 d_S_odds_47 rfl rfl ?_
      refine r_aload_n 0 d_S_odds_48 rfl rfl ?_
      refine r_aload_n 0 d_S_odds_49 rfl rfl ?_
      refine r_getR fl_S_12 (by first | with_reducible assumption | rfl) rfl d_S_odds_50 ?_
      refine r_getR fl_S_236 (by first | with_reducible assumption | rfl) rfl d_S_odds_53 ?_
      refine r_iload 4 d_S_odds_56 rfl ?_
      refine r_aald3N (by first | with_reducible assumption | rfl) (by decide) (by first | with_reducible assumption | omega | decide | assumption) d_S_odds_58 ?_
      refine r_iload_n 1 d_S_odds_59 rfl rfl ?_
      refine r_callVl (c_S_knownSet (isL_s i hl4) _ _) lk_S_223 (by first | with_reducible assumption | rfl) d_S_odds_60 rfl rfl (Nat.le_of_ble_eq_true rfl) (by decide) ?_
      rw [show (oddM μ t i).1 (8 + 4 * i) = μ.1 (8 + 4 * i) from lastA_ne (by omega) i, show (oddM μ t i).1 (8 + 4 * i + 1) = μ.1 (8 + 4 * i + 1) from lastA_ne (by omega) i, show (oddM μ t i).1 3 = μ.1 3 from lastA_ne (by decide) i, show ansM (oddM μ t i) (findS (μ.1 (8 + 4 * i) 0) (μ.1 (8 + 4 * i) 1) (μ.1 (8 + 4 * i + 1)) 35 t (μ.1 3 1) (μ.1 3 2)) = oddM μ t (i + 1) from lastA_s i]
      refine r_callSi (c_JLong_bitCount _ _) lk_S_240 d_S_odds_63 rfl rfl (Nat.le_of_ble_eq_true rfl) (by decide) ?_
      rw [bitS_n]
      refine r_iadd d_S_odds_66 ?_
      rw [nI_add]
      refine r_istore_n 3 [_, _, _, _, _, _] d_S_odds_67 rfl (by decide) rfl ?_
      first | refine r_iincN 4 [_, _, _, _, _, _] d_S_odds_68 (by decide) rfl rfl ?_ | refine r_iinc 4 [_, _, _, _, _, _] (1) d_S_odds_68 (by decide) (by decide) rfl rfl ?_
      refine r_goto d_S_odds_71 ?_
      exact hk _ hl (by rw [abF, hw]; rfl)
