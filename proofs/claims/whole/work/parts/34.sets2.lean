/-! what won't be known on a FRIDAY, ODDS, the hardest, the slips, what is DRAWN -/
set_option maxHeartbeats 400000 in
theorem c_S_friday_no {m : Nat} (l n t : Int32) (μ : Me) (hct : μ.1 1 1 = nI m) (hm : m ≤ 4) (hG : ¬ ((0 ≤ l ∧ l < nI m) ∧ (0 ≤ n ∧ n ≤ 30) ∧ 1 ≤ t ∧ t ≤ 9)) : CtL m_S_friday 6 [.ref 0, .int l, .int n, .int t] μ (-1) μ := by
  refine Ct.of (ls := [.ref 0, .int l, .int n, .int t, flr]) rfl (Nat.le_of_ble_eq_true rfl) rfl (fun X => ?_)
  by_cases hg : 0 ≤ l ∧ l < nI m
  · obtain ⟨j, hj, rfl⟩ := lr_yes hm hg
    refine r_aload_n 0 d_S_friday_0 rfl rfl ?_
    refine r_getR fl_S_12 (by first | with_reducible assumption | rfl) rfl d_S_friday_1 ?_
    refine r_iload_n 1 d_S_friday_4 rfl rfl ?_
    refine r_callVa (c_School_learnerAt_yes j m hj hm _ hct) lk_S_127 (by first | with_reducible assumption | rfl) d_S_friday_5 rfl rfl (Nat.le_of_ble_eq_true rfl) (by decide) ?_
    refine r_astore 4 [_, _, _, _, _] d_S_friday_8 (by decide) rfl ?_
    refine r_aload 4 d_S_friday_10 rfl ?_
    refine r_ifnull d_S_friday_12 ?_
    refine r_iload_n 2 d_S_friday_15 rfl rfl ?_
    refine r_bipush (30) d_S_friday_16 (by decide) ?_
    refine r_callSi (c_S_isWithin _ _ _) lk_S_118 d_S_friday_18 rfl rfl (Nat.le_of_ble_eq_true rfl) (by decide) ?_
    refine r_if_eq d_S_friday_21 (fun h21 => ?_) (fun h21 => ?_)
    · refine r_ldc2 kc_S_161 d_S_friday_31 ?_
      refine r_lret d_S_friday_34 rfl ?_
      exact ⟨rfl, rfl⟩
    · refine r_iload_n 3 d_S_friday_24 rfl rfl ?_
      refine r_callSi (c_S_isSeconds _ _) lk_S_190 d_S_friday_25 rfl rfl (Nat.le_of_ble_eq_true rfl) (by decide) ?_
      refine r_if_ne d_S_friday_28 (fun h28 => absurd (bz_0.mpr (fun z => hG ⟨hg, bz_p h21, z⟩)) h28) (fun h28 => ?_)
      refine r_ldc2 kc_S_161 d_S_friday_31 ?_
      refine r_lret d_S_friday_34 rfl ?_
      exact ⟨rfl, rfl⟩
  · have hno := lr_no hg
    rw [← hct] at hno
    refine r_aload_n 0 d_S_friday_0 rfl rfl ?_
    refine r_getR fl_S_12 (by first | with_reducible assumption | rfl) rfl d_S_friday_1 ?_
    refine r_iload_n 1 d_S_friday_4 rfl rfl ?_
    refine r_callVa (c_School_learnerAt_no _ _ hno) lk_S_127 (by first | with_reducible assumption | rfl) d_S_friday_5 rfl rfl (Nat.le_of_ble_eq_true rfl) (by decide) ?_
    refine r_astoreN 4 [_, _, _, _, _] d_S_friday_8 (by decide) rfl ?_
    refine r_aloadN 4 d_S_friday_10 rfl ?_
    refine r_ifnullN d_S_friday_12 ?_
    refine r_ldc2 kc_S_161 d_S_friday_31 ?_
    refine r_lret d_S_friday_34 rfl ?_
    exact ⟨rfl, rfl⟩
/-- the spare LEARNER is one like that of the cell c -/
def spareM (μ : Me) (c : Nat) : Me := r3 (uI (uI μ 53 0 (μ.1 c 0)) 53 1 (μ.1 c 1)) 53 (cut 36 (μ.1 (c + 1)) (μ.1 54)) (cut 36 (μ.1 (c + 2)) (μ.1 55)) (cut 36 (μ.1 (c + 3)) (μ.1 56))
def friF (μ : Me) (c n : Nat) : Nat → Int32 := sleepF (μ.1 3 0) n (cut 36 (μ.1 (c + 1)) (μ.1 54)) (cut 36 (μ.1 (c + 2)) (μ.1 55))
def friA (μ : Me) (c n : Nat) : Me := rI (spareM μ c) 54 (friF μ c n)
theorem spare_3 {μ : Me} {c : Nat} : (spareM μ c).1 3 = μ.1 3 := by rw [spareM, r3_ne (by decide) (by decide) (by decide), uI_ne (by decide), uI_ne (by decide)]
theorem spare_54 {μ : Me} {c : Nat} : (spareM μ c).1 (53 + 1) = cut 36 (μ.1 (c + 1)) (μ.1 54) := r3_1
theorem spare_55 {μ : Me} {c : Nat} : (spareM μ c).1 (53 + 2) = cut 36 (μ.1 (c + 2)) (μ.1 55) := r3_2
theorem spare_56 {μ : Me} {c : Nat} : (spareM μ c).1 (53 + 3) = cut 36 (μ.1 (c + 3)) (μ.1 56) := r3_3
theorem spare_k {μ : Me} {c : Nat} : (spareM μ c).1 53 0 = μ.1 c 0 := by rw [spareM, r3_ne (by decide) (by decide) (by decide), uI_off (by decide), uI_at]
theorem spare_a {μ : Me} {c : Nat} : (spareM μ c).1 53 1 = μ.1 c 1 := by rw [spareM, r3_ne (by decide) (by decide) (by decide), uI_at]
set_option maxHeartbeats 400000 in
theorem c_S_friday {m j n : Nat} (hm : m ≤ 4) (hj : j < m) (hn : n ≤ 30) (t : Int32) (ht : 1 ≤ t ∧ t ≤ 9) (μ : Me) (hct : μ.1 1 1 = nI m) (hr : ∀ p, p < 36 → ¬ (100 * (μ.1 (8 + 4 * j + 2) p + 1) = 0)) : CtL m_S_friday 6 [.ref 0, .int (nI j), .int (nI n), .int t] μ (68719476735 &&& (knF (knB (μ.1 (8 + 4 * j) 0) (μ.1 (8 + 4 * j) 1) (friF μ (8 + 4 * j) n) t (μ.1 3 1) (μ.1 3 2)) 36 ^^^ -1)) (ansM (friA μ (8 + 4 * j) n) (findS (μ.1 (8 + 4 * j) 0) (μ.1 (8 + 4 * j) 1) (friF μ (8 + 4 * j) n) 35 t (μ.1 3 1) (μ.1 3 2))) := by
  refine Ct.of (ls := [.ref 0, .int (nI j), .int (nI n), .int t, flr]) rfl (Nat.le_of_ble_eq_true rfl) rfl (fun X => ?_)
  have hj4 : j < 4 := by omega
  have hL := isL_s j hj4
  have e53 : (friA μ (8 + 4 * j) n).1 53 = (spareM μ (8 + 4 * j)).1 53 := rI_ne (by decide)
  have e54 : (friA μ (8 + 4 * j) n).1 (53 + 1) = friF μ (8 + 4 * j) n := rI_eq
  have e3 : (friA μ (8 + 4 * j) n).1 3 = μ.1 3 := (rI_ne (by decide)).trans spare_3
  refine r_aload_n 0 d_S_friday_0 rfl rfl ?_
  refine r_getR fl_S_12 (by first | with_reducible assumption | rfl) rfl d_S_friday_1 ?_
  refine r_iload_n 1 d_S_friday_4 rfl rfl ?_
  refine r_callVa (c_School_learnerAt_yes j m hj hm _ hct) lk_S_127 (by first | with_reducible assumption | rfl) d_S_friday_5 rfl rfl (Nat.le_of_ble_eq_true rfl) (by decide) ?_
  refine r_astore 4 [_, _, _, _, _] d_S_friday_8 (by decide) rfl ?_
  refine r_aload 4 d_S_friday_10 rfl ?_
  refine r_ifnull d_S_friday_12 ?_
  refine r_iload_n 2 d_S_friday_15 rfl rfl ?_
  refine r_bipush (30) d_S_friday_16 (by decide) ?_
  refine r_callSi (c_S_isWithin _ _ _) lk_S_118 d_S_friday_18 rfl rfl (Nat.le_of_ble_eq_true rfl) (by decide) ?_
  refine r_if_eq d_S_friday_21 (fun h21 => absurd h21 (fun z => bz_np z ⟨nI_pos' (by omega), nI_le hn (by decide)⟩)) (fun h21 => ?_)
  refine r_iload_n 3 d_S_friday_24 rfl rfl ?_
  refine r_callSi (c_S_isSeconds _ _) lk_S_190 d_S_friday_25 rfl rfl (Nat.le_of_ble_eq_true rfl) (by decide) ?_
  refine r_if_ne d_S_friday_28 (fun h28 => ?_) (fun h28 => absurd h28 (fun z => bz_np z ht))
  refine r_aload_n 0 d_S_friday_35 rfl rfl ?_
  refine r_getR fl_S_40 (by first | with_reducible assumption | rfl) rfl d_S_friday_36 ?_
  refine r_aload 4 d_S_friday_39 rfl ?_
  refine r_callVv (c_Learner_copyFrom isL_53 hL (Or.inr (by omega)) _) lk_S_227 (by first | with_reducible assumption | rfl) d_S_friday_41 rfl rfl (Nat.le_of_ble_eq_true rfl) (by decide) ?_
  show Wa X _ _ _ _ _ (spareM μ (8 + 4 * j)) _
  refine r_aload_n 0 d_S_friday_44 rfl rfl ?_
  refine r_getR fl_S_40 (by first | with_reducible assumption | rfl) rfl d_S_friday_45 ?_
  refine r_iload_n 2 d_S_friday_48 rfl rfl ?_
  refine r_aload_n 0 d_S_friday_49 rfl rfl ?_
  refine r_getR fl_S_12 (by first | with_reducible assumption | rfl) rfl d_S_friday_50 ?_
  refine r_getR fl_S_184 (by first | with_reducible assumption | rfl) rfl d_S_friday_53 ?_
  refine r_iconst 0 d_S_friday_56 rfl ?_
  refine r_ialdN (j := 0) (by first | with_reducible assumption | rfl) (by first | with_reducible assumption | omega | decide | assumption) d_S_friday_57 ?_
  refine r_callVv (c_Learner_sleep isL_53 n (by omega) _ _ (by rw [spare_55]; intro p hp; rw [cut, if_pos hp]; exact hr p hp)) lk_S_230 (by first | with_reducible assumption | rfl) d_S_friday_58 rfl rfl (Nat.le_of_ble_eq_true rfl) (by decide) ?_
  rw [spare_54, spare_55, spare_3]
  show Wa X _ _ _ _ _ (friA μ (8 + 4 * j) n) _
  refine r_ldc2 kc_S_234 d_S_friday_61 ?_
  refine r_aload_n 0 d_S_friday_64 rfl rfl ?_
  refine r_aload_n 0 d_S_friday_65 rfl rfl ?_
  refine r_getR fl_S_40 (by first | with_reducible assumption | rfl) rfl d_S_friday_66 ?_
  refine r_iload_n 3 d_S_friday_69 rfl rfl ?_
  refine r_callVl (c_S_knownSet isL_53 _ _) lk_S_223 (by first | with_reducible assumption | rfl) d_S_friday_70 rfl rfl (Nat.le_of_ble_eq_true rfl) (by decide) ?_
  rw [e54, e53, e3, spare_k, spare_a]
  refine r_ldc2 kc_S_161 d_S_friday_73 ?_
  refine r_lxor d_S_friday_76 ?_
  refine r_land d_S_friday_77 ?_
  refine r_lret d_S_friday_78 rfl ?_
  exact ⟨rfl, rfl⟩
/-- how many of the first i LEARNERS know the PAIR -/
def hmkF (B : Nat → Bool) : Nat → Nat
  | 0 => 0
  | i + 1 => if B i then hmkF B i + 1 else hmkF B i
theorem hmkF_le (B : Nat → Bool) : ∀ i, hmkF B i ≤ i
  | 0 => Nat.le_refl _
  | i + 1 => by
    have := hmkF_le B i
    rw [hmkF]
    split <;> omega
def lkn (μ : Me) (t : Int32) (p i : Nat) : Bool := knB (μ.1 (8 + 4 * i) 0) (μ.1 (8 + 4 * i) 1) (μ.1 (8 + 4 * i + 1)) t (μ.1 3 1) (μ.1 3 2) p
def lfd (μ : Me) (t : Int32) (p i : Nat) : Int32 × Int32 × Int32 × Int32 := findS (μ.1 (8 + 4 * i) 0) (μ.1 (8 + 4 * i) 1) (μ.1 (8 + 4 * i + 1)) p t (μ.1 3 1) (μ.1 3 2)
theorem lkn_ans {μ : Me} {q : Int32 × Int32 × Int32 × Int32} {t : Int32} {p i : Nat} (hi : i < 4) : lkn (ansM μ q) t p i = lkn μ t p i := by
  rw [lkn, ansM_ne (by omega), ansM_ne (by omega), ansM_ne (by decide), lkn]
theorem lfd_ans {μ : Me} {q : Int32 × Int32 × Int32 × Int32} {t : Int32} {p i : Nat} (hi : i < 4) : lfd (ansM μ q) t p i = lfd μ t p i := by
  rw [lfd, ansM_ne (by omega), ansM_ne (by omega), ansM_ne (by decide), lfd]
set_option maxHeartbeats 400000 in
theorem c_S_howManyKnow {m p : Nat} (hm : m ≤ 4) (hp : p < 36) (t : Int32) (μ : Me) (hct : μ.1 1 1 = nI m) : CtI m_S_howManyKnow 5 [.ref 0, .int (nI p), .int t] μ (nI (hmkF (lkn μ t p) m)) (lastA μ (lfd μ t p) m) := by
  refine Ct.of (ls := [.ref 0, .int (nI p), .int t, flr, flr]) rfl (Nat.le_of_ble_eq_true rfl) rfl (fun X => ?_)
  refine r_iconst 0 d_S_howManyKnow_0 rfl ?_
  refine r_istore_n 3 [_, _, _, _, _] d_S_howManyKnow_1 rfl (by decide) rfl ?_
  refine r_iconst 0 d_S_howManyKnow_2 rfl ?_
  refine r_istore 4 [_, _, _, _, _] d_S_howManyKnow_3 (by decide) rfl ?_
  have lp := lpN m (fun i (w : Nat) => Wa X m_S_howManyKnow 5 5 [.ref 0, .int (nI p), .int t, .int (nI w), .int (nI i)] [] (lastA μ (lfd μ t p) i) (fun r μ' => r = some (.int (nI (hmkF (lkn μ t p) m))) ∧ μ' = lastA μ (lfd μ t p) m)) (fun i w => w = hmkF (lkn μ t p) i) ?_ 0 0 (Nat.zero_le _) rfl
  · exact lp
  · intro i w hi hw hk
    have e1 : (lastA μ (lfd μ t p) i).1 1 = μ.1 1 := lastA_ne (by decide) i
    refine r_iload 4 d_S_howManyKnow_5 rfl ?_
    refine r_aload_n 0 d_S_howManyKnow_7 rfl rfl ?_
    refine r_getR fl_S_12 (by first | with_reducible assumption | rfl) rfl d_S_howManyKnow_8 ?_
    refine r_getI fl_S_122 (by first | with_reducible assumption | rfl) rfl d_S_howManyKnow_11 ?_
    refine r_icmp_ge d_S_howManyKnow_14 (fun h14 => ?_) (fun h14 => ?_)
    · refine r_iload_n 3 d_S_howManyKnow_62 rfl rfl ?_
      refine r_iret .int d_S_howManyKnow_63 rfl rfl ?_
      have hge := n_le h14 (by rw [e1, hct]) rfl (by omega) (by omega)
      obtain rfl : i = m := by omega
      exact ⟨by rw [hw], rfl⟩
    · have hl : i < m := n_lt h14 (by rw [e1, hct]) rfl (by omega) (by omega)
      have hl4 : i < 4 := by omega
      refine r_aload_n 0 d_S_howManyKnow_17 rfl rfl ?_
      refine r_getR fl_S_47 (by first | with_reducible assumption | rfl) rfl d_S_howManyKnow_18 ?_
      refine r_aload_n 0 d_S_howManyKnow_21 rfl rfl ?_
      refine r_getR fl_S_12 (by first | with_reducible assumption | rfl) rfl d_S_howManyKnow_22 ?_
      refine r_getR fl_S_236 (by first | with_reducible assumption | rfl) rfl d_S_howManyKnow_25 ?_
      refine r_iload 4 d_S_howManyKnow_28 rfl ?_
      refine r_aald3N (by first | with_reducible assumption | rfl) (by decide) (by first | with_reducible assumption | omega | decide | assumption) d_S_howManyKnow_30 ?_
      refine r_iload_n 1 d_S_howManyKnow_31 rfl rfl ?_
      refine r_iload_n 2 d_S_howManyKnow_32 rfl rfl ?_
      refine r_aload_n 0 d_S_howManyKnow_33 rfl rfl ?_
      refine r_getR fl_S_12 (by first | with_reducible assumption | rfl) rfl d_S_howManyKnow_34 ?_
      refine r_getR fl_S_184 (by first | with_reducible assumption | rfl) rfl d_S_howManyKnow_37 ?_
      refine r_callVv (c_Answer_find (isL_s i hl4) hp rfl _ _) lk_S_196 (by first | with_reducible assumption | rfl) d_S_howManyKnow_40 rfl rfl (Nat.le_of_ble_eq_true rfl) (by decide) ?_
      rw [lastA_ne (by omega), lastA_ne (by omega), lastA_ne (by decide), lastA_s]
      refine r_aload_n 0 d_S_howManyKnow_43 rfl rfl ?_
      refine r_getR fl_S_47 (by first | with_reducible assumption | rfl) rfl d_S_howManyKnow_44 ?_
      refine r_callVi (c_Answer_isProduct _) lk_S_286 (by first | with_reducible assumption | rfl) d_S_howManyKnow_47 rfl rfl (Nat.le_of_ble_eq_true rfl) (by decide) ?_
      rw [ansM_1]
      refine r_if_eq d_S_howManyKnow_50 (fun h50 => ?_) (fun h50 => ?_)
      · first | refine r_iincN 4 [_, _, _, _, _] d_S_howManyKnow_56 (by decide) rfl rfl ?_ | refine r_iinc 4 [_, _, _, _, _] (1) d_S_howManyKnow_56 (by decide) (by decide) rfl rfl ?_
        refine r_goto d_S_howManyKnow_59 ?_
        refine hk _ hl ?_
        rw [hmkF, ← hw]
        first
          | exact (if_neg (by simpa [lkn, knB] using bz_np h50)).symm
          | exact (if_pos (by simpa [lkn, knB] using bz_p h50)).symm
      · first | refine r_iincN 3 [_, _, _, _, _] d_S_howManyKnow_53 (by decide) rfl rfl ?_ | refine r_iinc 3 [_, _, _, _, _] (1) d_S_howManyKnow_53 (by decide) (by decide) rfl rfl ?_
        first | refine r_iincN 4 [_, _, _, _, _] d_S_howManyKnow_56 (by decide) rfl rfl ?_ | refine r_iinc 4 [_, _, _, _, _] (1) d_S_howManyKnow_56 (by decide) (by decide) rfl rfl ?_
        refine r_goto d_S_howManyKnow_59 ?_
        refine hk _ hl ?_
        rw [hmkF, ← hw]
        first
          | exact (if_neg (by simpa [lkn, knB] using bz_np h50)).symm
          | exact (if_pos (by simpa [lkn, knB] using bz_p h50)).symm
