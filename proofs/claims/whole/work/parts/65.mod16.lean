/-! feel, feed, keep, again of the reference -/
set_option maxHeartbeats 400000 in
theorem c_M_feel_no {m : Nat} (hm : m ≤ 4) (l p t : Int32) (μ : Me) (hct : μ.1 83 0 = nI m) (hG : ¬ ((0 ≤ l ∧ l < nI m) ∧ (0 ≤ p ∧ p < 36) ∧ 1 ≤ t ∧ t ≤ 9)) : CtI m_M_feel 3 [.ref 82, .int l, .int p, .int t] μ (-1) μ := by
  refine Ct.of (ls := [.ref 82, .int l, .int p, .int t]) rfl (Nat.le_of_ble_eq_true rfl) rfl (fun X => ?_)
  refine r_aload_n 0 d_M_feel_0 rfl rfl ?_
  refine r_iload_n 1 d_M_feel_1 rfl rfl ?_
  refine r_callVi (c_M_isLearner hm _ _ hct) lk_M_115 (by first | with_reducible assumption | rfl) d_M_feel_2 rfl rfl (Nat.le_of_ble_eq_true rfl) (by decide) ?_
  refine r_if_eq d_M_feel_5 (fun h5 => ?_) (fun h5 => ?_)
  · refine r_iconst (-1) d_M_feel_32 rfl ?_
    refine r_iret .int d_M_feel_33 rfl rfl ?_
    exact ⟨rfl, rfl⟩
  · refine r_iload_n 2 d_M_feel_8 rfl rfl ?_
    refine r_callSi (c_M_isPair _ _) lk_M_91 d_M_feel_9 rfl rfl (Nat.le_of_ble_eq_true rfl) (by decide) ?_
    refine r_if_eq d_M_feel_12 (fun h12 => ?_) (fun h12 => ?_)
    · refine r_iconst (-1) d_M_feel_32 rfl ?_
      refine r_iret .int d_M_feel_33 rfl rfl ?_
      exact ⟨rfl, rfl⟩
    · refine r_iload_n 3 d_M_feel_15 rfl rfl ?_
      refine r_callSi (c_M_isTime _ _) lk_M_142 d_M_feel_16 rfl rfl (Nat.le_of_ble_eq_true rfl) (by decide) ?_
      refine r_if_eq d_M_feel_19 (fun h19 => ?_) (fun h19 => ?_)
      · refine r_iconst (-1) d_M_feel_32 rfl ?_
        refine r_iret .int d_M_feel_33 rfl rfl ?_
        exact ⟨rfl, rfl⟩
      · exact absurd ⟨bz_p h5, bz_p h12, bz_p h19⟩ hG
set_option maxHeartbeats 400000 in
theorem c_M_feel {m j p : Nat} (hm : m ≤ 4) (hj : j < m) (hp : p < 36) (t : Int32) (ht : 1 ≤ t ∧ t ≤ 9) (μ : Me) (hct : μ.1 83 0 = nI m) (hat : μ.1 82 1 = nI 0) (hO : LO (μ.1 83) 0 j) : CtI m_M_feel 3 [.ref 82, .int (nI j), .int (nI p), .int t] μ (feelS (kM (μ.1 83) 0 j) (aM (μ.1 83) 0 j) (fM (μ.1 83) 0 j p) t) μ := by
  refine Ct.of (ls := [.ref 82, .int (nI j), .int (nI p), .int t]) rfl (Nat.le_of_ble_eq_true rfl) rfl (fun X => ?_)
  refine r_aload_n 0 d_M_feel_0 rfl rfl ?_
  refine r_iload_n 1 d_M_feel_1 rfl rfl ?_
  refine r_callVi (c_M_isLearner hm _ _ hct) lk_M_115 (by first | with_reducible assumption | rfl) d_M_feel_2 rfl rfl (Nat.le_of_ble_eq_true rfl) (by decide) ?_
  refine r_if_eq d_M_feel_5 (fun h5 => absurd h5 (bzy (nIb hj hm))) (fun h5 => ?_)
  refine r_iload_n 2 d_M_feel_8 rfl rfl ?_
  refine r_callSi (c_M_isPair _ _) lk_M_91 d_M_feel_9 rfl rfl (Nat.le_of_ble_eq_true rfl) (by decide) ?_
  refine r_if_eq d_M_feel_12 (fun h12 => absurd h12 (bzy (pIb hp))) (fun h12 => ?_)
  refine r_iload_n 3 d_M_feel_15 rfl rfl ?_
  refine r_callSi (c_M_isTime _ _) lk_M_142 d_M_feel_16 rfl rfl (Nat.le_of_ble_eq_true rfl) (by decide) ?_
  refine r_if_eq d_M_feel_19 (fun h19 => absurd h19 (bzy ht)) (fun h19 => ?_)
  refine r_aload_n 0 d_M_feel_22 rfl rfl ?_
  refine r_iload_n 1 d_M_feel_23 rfl rfl ?_
  refine r_iload_n 2 d_M_feel_24 rfl rfl ?_
  refine r_iload_n 3 d_M_feel_25 rfl rfl ?_
  refine r_callVi (c_M_feelOf (A := 0) (by decide) (by omega) hp _ _ hat hO) lk_M_145 (by first | with_reducible assumption | rfl) d_M_feel_26 rfl rfl (Nat.le_of_ble_eq_true rfl) (by decide) ?_
  refine r_goto d_M_feel_29 ?_
  refine r_iret .int d_M_feel_33 rfl rfl ?_
  exact ⟨rfl, rfl⟩
/-- a byte of a long, by the reference -/
def byteM (e : Int64) (k : Nat) : Int32 := ((e >>> ((8 * nI k).toInt64 &&& 63)) &&& 255).toInt32
def tapM (e : Int64) (n : Nat) (f : Nat → Int32) : Nat → Nat → Int32
  | 0 => f
  | k + 1 => upd (tapM e n f k) (n + k) (byteM e k)
set_option maxHeartbeats 400000 in
theorem c_M_feed_bad {n : Int32} (e : Int64) (hP : ¬ (1 ≤ n ∧ n ≤ 8)) (μ : Me) : CtI m_M_feed 1 [.ref 82, .long e, .int n] μ (-1) μ := by
  refine Ct.of (ls := [.ref 82, .long e, flr, .int n, flr]) rfl (Nat.le_of_ble_eq_true rfl) rfl (fun X => ?_)
  refine r_iload_n 3 d_M_feed_0 rfl rfl ?_
  refine r_iconst 1 d_M_feed_1 rfl ?_
  refine r_bipush (8) d_M_feed_2 (by decide) ?_
  refine r_callSi (c_M_in _ _ _ _) lk_M_72 d_M_feed_4 rfl rfl (Nat.le_of_ble_eq_true rfl) (by decide) ?_
  refine r_if_ne d_M_feed_7 (fun h7 => absurd (bzn hP) h7) (fun h7 => ?_)
  refine r_iconst (-1) d_M_feed_10 rfl ?_
  refine r_iret .int d_M_feed_11 rfl rfl ?_
  exact ⟨rfl, rfl⟩
set_option maxHeartbeats 400000 in
theorem c_M_feed_full {n t : Nat} (e : Int64) (hP : 1 ≤ n ∧ n ≤ 8) (ht : t ≤ 200) (hf : 200 < t + n) (μ : Me) (hct : μ.1 82 11 = nI t) : CtI m_M_feed 1 [.ref 82, .long e, .int (nI n)] μ (-2) μ := by
  refine Ct.of (ls := [.ref 82, .long e, flr, .int (nI n), flr]) rfl (Nat.le_of_ble_eq_true rfl) rfl (fun X => ?_)
  refine r_iload_n 3 d_M_feed_0 rfl rfl ?_
  refine r_iconst 1 d_M_feed_1 rfl ?_
  refine r_bipush (8) d_M_feed_2 (by decide) ?_
  refine r_callSi (c_M_in _ _ _ _) lk_M_72 d_M_feed_4 rfl rfl (Nat.le_of_ble_eq_true rfl) (by decide) ?_
  refine r_if_ne d_M_feed_7 (fun h7 => ?_) (fun h7 => absurd h7 (bzy ⟨nI_le (a := 1) (b := n) hP.1 (by omega), nI_le hP.2 (by decide)⟩))
  refine r_aload_n 0 d_M_feed_12 rfl rfl ?_
  refine r_getI fl_M_225 (by first | with_reducible assumption | rfl) rfl d_M_feed_13 ?_
  refine r_iload_n 3 d_M_feed_16 rfl rfl ?_
  refine r_iadd d_M_feed_17 ?_
  refine r_sipush (200) d_M_feed_18 (by decide) ?_
  refine r_icmp_le d_M_feed_21 (fun h21 => absurd h21 (by rw [hct, nI_add]; exact nI_ge hf (by omega))) (fun h21 => ?_)
  refine r_bipush (-2) d_M_feed_24 (by decide) ?_
  refine r_iret .int d_M_feed_26 rfl rfl ?_
  exact ⟨rfl, rfl⟩
set_option maxHeartbeats 400000 in
theorem c_M_feed {n t : Nat} (e : Int64) (hP : 1 ≤ n ∧ n ≤ 8) (hf : t + n ≤ 200) (μ : Me) (hct : μ.1 82 11 = nI t) : CtI m_M_feed 1 [.ref 82, .long e, .int (nI n)] μ (nI (t + n)) (uI (rI μ 88 (tapM e t (μ.1 88) n)) 82 11 (nI (t + n))) := by
  refine Ct.of (ls := [.ref 82, .long e, flr, .int (nI n), flr]) rfl (Nat.le_of_ble_eq_true rfl) rfl (fun X => ?_)
  refine r_iload_n 3 d_M_feed_0 rfl rfl ?_
  refine r_iconst 1 d_M_feed_1 rfl ?_
  refine r_bipush (8) d_M_feed_2 (by decide) ?_
  refine r_callSi (c_M_in _ _ _ _) lk_M_72 d_M_feed_4 rfl rfl (Nat.le_of_ble_eq_true rfl) (by decide) ?_
  refine r_if_ne d_M_feed_7 (fun h7 => ?_) (fun h7 => absurd h7 (bzy ⟨nI_le (a := 1) (b := n) hP.1 (by omega), nI_le hP.2 (by decide)⟩))
  refine r_aload_n 0 d_M_feed_12 rfl rfl ?_
  refine r_getI fl_M_225 (by first | with_reducible assumption | rfl) rfl d_M_feed_13 ?_
  refine r_iload_n 3 d_M_feed_16 rfl rfl ?_
  refine r_iadd d_M_feed_17 ?_
  refine r_sipush (200) d_M_feed_18 (by decide) ?_
  refine r_icmp_le d_M_feed_21 (fun h21 => ?_) (fun h21 => absurd (by rw [hct, nI_add]; exact nI_le hf (by decide)) h21)
  refine r_iconst 0 d_M_feed_27 rfl ?_
  refine r_istore 4 [_, _, _, _, _] d_M_feed_28 (by decide) rfl ?_
  refine lpN n (fun i (μ1 : Me) => Wa X m_M_feed 1 30 [.ref 82, .long e, flr, .int (nI n), .int (nI i)] [] μ1 _) (fun i μ1 => μ1 = uI (rI μ 88 (tapM e t (μ.1 88) i)) 82 11 (nI (t + i))) ?_ 0 _ (Nat.zero_le _) ?_
  · intro i μ1 hi hw hk
    subst hw
    refine r_iload 4 d_M_feed_30 rfl ?_
    refine r_iload_n 3 d_M_feed_32 rfl rfl ?_
    refine r_icmp_ge d_M_feed_33 (fun h33 => ?_) (fun h33 => ?_)
    · have hge := n_le h33 rfl rfl (by omega) (by omega)
      obtain rfl : i = n := by omega
      refine r_aload_n 0 d_M_feed_73 rfl rfl ?_
      refine r_getI fl_M_225 (by first | with_reducible assumption | rfl) rfl d_M_feed_74 ?_
      refine r_iret .int d_M_feed_77 rfl rfl ?_
      exact ⟨by rw [uI_at], rfl⟩
    · have hl : i < n := n_lt h33 rfl rfl (by omega) (by omega)
      refine r_aload_n 0 d_M_feed_36 rfl rfl ?_
      refine r_getR fl_M_29 (by first | with_reducible assumption | rfl) rfl d_M_feed_37 ?_
      refine r_aload_n 0 d_M_feed_40 rfl rfl ?_
      refine r_getI fl_M_225 (by first | with_reducible assumption | rfl) rfl d_M_feed_41 ?_
      rw [uI_at]
      refine r_lload_n 1 d_M_feed_44 rfl rfl ?_
      refine r_bipush (8) d_M_feed_45 (by decide) ?_
      refine r_iload 4 d_M_feed_47 rfl ?_
      refine r_imul d_M_feed_49 ?_
      refine r_lshr d_M_feed_50 ?_
      refine r_ldc2 kc_M_228 d_M_feed_51 ?_
      refine r_land d_M_feed_54 ?_
      refine r_l2i d_M_feed_55 ?_
      refine r_iastN (by first | with_reducible assumption | rfl) (show t + i < 200 by omega) d_M_feed_56 ?_
      refine r_aload_n 0 d_M_feed_57 rfl rfl ?_
      refine r_dup d_M_feed_58 rfl ?_
      refine r_getI fl_M_225 (by first | with_reducible assumption | rfl) rfl d_M_feed_59 ?_
      refine r_iconst 1 d_M_feed_62 rfl ?_
      refine r_iadd d_M_feed_63 ?_
      refine r_putI fp_M_225 (by first | with_reducible assumption | rfl) rfl d_M_feed_64 ?_
      first | refine r_iincN 4 [_, _, _, _, _] d_M_feed_67 (by decide) rfl rfl ?_ | refine r_iinc 4 [_, _, _, _, _] (1) d_M_feed_67 (by decide) (by decide) rfl rfl ?_
      refine r_goto d_M_feed_70 ?_
      refine hk _ hl ?_
      rw [tapM, show t + (i + 1) = t + i + 1 from rfl, uI_ne (c' := 82) (by decide), uI_at, ← nI_succ]
      refine Me_ext (fun c' j' => ?_) (fun _ _ => rfl)
      by_cases h1 : c' = 82
      · subst h1
        by_cases h2 : j' = 11
        · subst h2; rw [uI_at, uI_at]
        · rw [uI_off h2, uI_off h2, uI_ne (by decide), uI_off h2, rI_ne (by decide), rI_ne (by decide)]
      · rw [uI_ne h1, uI_ne h1]
        by_cases h3 : c' = 88
        · subst h3
          rw [uI_eq, uI_ne (by decide), rI_eq, rI_eq]
          rfl
        · rw [uI_ne h3, uI_ne h1, rI_ne h3, rI_ne h3]
  · rw [tapM, rI_self, Nat.add_zero, ← hct]
    exact (uI_self rfl).symm
/-- rows moved to and from what is kept -/
def mvF (h : Nat → Int32) (M : Nat) (f : Nat → Int32) (n : Nat) : Nat → Int32 := fun i => if M ≤ i ∧ i < M + n then f (i - M) else h i
theorem mv_0 {h f : Nat → Int32} {M : Nat} : mvF h M f 0 = h := by funext i; rw [mvF, if_neg (by omega)]
theorem mv_s {h f : Nat → Int32} {M n : Nat} : upd (mvF h M f n) (M + n) (f n) = mvF h M f (n + 1) := by
  funext i
  unfold mvF upd
  by_cases hi : i = M + n
  · subst hi
    rw [if_pos rfl, if_pos (by omega), show M + n - M = n by omega]
  · rw [if_neg hi]
    dsimp only
    by_cases h2 : M ≤ i ∧ i < M + n
    · rw [if_pos h2, if_pos (by omega)]
    · rw [if_neg h2, if_neg (by omega)]
theorem mv_in {h f : Nat → Int32} {M n i : Nat} (hi : i < n) : mvF h M f n (M + i) = f i := by rw [mvF, if_pos (by omega), show M + i - M = i by omega]
theorem mv_out {h f : Nat → Int32} {M n i : Nat} (hi : i < M ∨ M + n ≤ i) : mvF h M f n i = h i := by rw [mvF, if_neg (by omega)]
def mvK (μ : Me) (c M n : Nat) : Me := uI (rI μ 100 (mvF (μ.1 100) M (μ.1 c) n)) 82 39 (nI (M + n))
def mvA (μ : Me) (c M n : Nat) : Me := uI (rI μ c (cut n (fun i => μ.1 100 (M + i)) (μ.1 c))) 82 39 (nI (M + n))
set_option maxHeartbeats 400000 in
theorem c_M_moveRow_k {c M n N : Nat} (hs : shp[c]? = some (.inr (0, N, 0, 0))) (hc : c ≠ 82) (hc2 : c ≠ 100) (hn : n ≤ N) (hM : M + n ≤ 490) (μ : Me) (hmt : μ.1 82 39 = nI M) : CtV m_M_moveRow 0 [.ref 82, .ref c, .int (nI n), .int 1] μ (mvK μ c M n) := by
  refine Ct.of (ls := [.ref 82, .ref c, .int (nI n), .int 1, flr]) rfl (Nat.le_of_ble_eq_true rfl) rfl (fun X => ?_)
  refine r_iconst 0 d_M_moveRow_0 rfl ?_
  refine r_istore 4 [_, _, _, _, _] d_M_moveRow_1 (by decide) rfl ?_
  refine lpN n (fun i (μ1 : Me) => Wa X m_M_moveRow 0 3 [.ref 82, .ref c, .int (nI n), .int 1, .int (nI i)] [] μ1 _) (fun i μ1 => μ1 = mvK μ c M i) ?_ 0 _ (Nat.zero_le _) ?_
  · intro i μ1 hi hw hk
    subst hw
    refine r_iload 4 d_M_moveRow_3 rfl ?_
    refine r_iload_n 2 d_M_moveRow_5 rfl rfl ?_
    refine r_icmp_ge d_M_moveRow_6 (fun h6 => ?_) (fun h6 => ?_)
    · have hge := n_le h6 rfl rfl (by omega) (by omega)
      obtain rfl : i = n := by omega
      refine r_ret d_M_moveRow_58 rfl ?_
      exact ⟨rfl, rfl⟩
    · have hl : i < n := n_lt h6 rfl rfl (by omega) (by omega)
      have e39 : (mvK μ c M i).1 82 39 = nI (M + i) := uI_at
      have ec : (mvK μ c M i).1 c = μ.1 c := by rw [mvK, uI_ne hc, rI_ne hc2]
      refine r_iload_n 3 d_M_moveRow_9 rfl rfl ?_
      refine r_if_eq d_M_moveRow_10 (fun h10 => absurd h10 (by decide)) (fun h10 => ?_)
      refine r_aload_n 0 d_M_moveRow_13 rfl rfl ?_
      refine r_getR fl_M_66 (by first | with_reducible assumption | rfl) rfl d_M_moveRow_14 ?_
      refine r_aload_n 0 d_M_moveRow_17 rfl rfl ?_
      refine r_getI fl_M_368 (by first | with_reducible assumption | rfl) rfl d_M_moveRow_18 ?_
      rw [e39]
      refine r_aload_n 1 d_M_moveRow_21 rfl rfl ?_
      refine r_iload 4 d_M_moveRow_22 rfl ?_
      refine r_ialdN (by first | with_reducible assumption | rfl) (show i < N by omega) d_M_moveRow_24 ?_
      rw [ec]
      refine r_iastN (by first | with_reducible assumption | rfl) (show M + i < 490 by omega) d_M_moveRow_25 ?_
      refine r_goto d_M_moveRow_26 ?_
      refine r_aload_n 0 d_M_moveRow_42 rfl rfl ?_
      refine r_dup d_M_moveRow_43 rfl ?_
      refine r_getI fl_M_368 (by first | with_reducible assumption | rfl) rfl d_M_moveRow_44 ?_
      refine r_iconst 1 d_M_moveRow_47 rfl ?_
      refine r_iadd d_M_moveRow_48 ?_
      refine r_putI fp_M_368 (by first | with_reducible assumption | rfl) rfl d_M_moveRow_49 ?_
      first | refine r_iincN 4 [_, _, _, _, _] d_M_moveRow_52 (by decide) rfl rfl ?_ | refine r_iinc 4 [_, _, _, _, _] (1) d_M_moveRow_52 (by decide) (by decide) rfl rfl ?_
      refine r_goto d_M_moveRow_55 ?_
      refine hk _ hl ?_
      rw [uI_ne (c' := 82) (by decide), e39, ← nI_succ, mvK, mvK, show M + (i + 1) = M + i + 1 from rfl, ← mv_s]
      refine Me_ext (fun c' j' => ?_) (fun _ _ => rfl)
      by_cases h1 : c' = 82
      · subst h1
        by_cases h2 : j' = 39
        · subst h2; rw [uI_at, uI_at]
        · rw [uI_off h2, uI_off h2, uI_ne (by decide), uI_off h2, rI_ne (by decide), rI_ne (by decide)]
      · rw [uI_ne h1, uI_ne h1]
        by_cases h3 : c' = 100
        · subst h3
          rw [uI_eq, uI_ne (by decide), rI_eq, rI_eq]
        · rw [uI_ne h3, uI_ne h1, rI_ne h3, rI_ne h3]
  · rw [mvK, mv_0, rI_self, Nat.add_zero]
    exact (uI_self hmt).symm
set_option maxHeartbeats 400000 in
theorem c_M_moveRow_a {c M n N : Nat} (hs : shp[c]? = some (.inr (0, N, 0, 0))) (hc : c ≠ 82) (hc2 : c ≠ 100) (hn : n ≤ N) (hM : M + n ≤ 490) (μ : Me) (hmt : μ.1 82 39 = nI M) : CtV m_M_moveRow 0 [.ref 82, .ref c, .int (nI n), .int 0] μ (mvA μ c M n) := by
  refine Ct.of (ls := [.ref 82, .ref c, .int (nI n), .int 0, flr]) rfl (Nat.le_of_ble_eq_true rfl) rfl (fun X => ?_)
  refine r_iconst 0 d_M_moveRow_0 rfl ?_
  refine r_istore 4 [_, _, _, _, _] d_M_moveRow_1 (by decide) rfl ?_
  refine lpN n (fun i (μ1 : Me) => Wa X m_M_moveRow 0 3 [.ref 82, .ref c, .int (nI n), .int 0, .int (nI i)] [] μ1 _) (fun i μ1 => μ1 = mvA μ c M i) ?_ 0 _ (Nat.zero_le _) ?_
  · intro i μ1 hi hw hk
    subst hw
    refine r_iload 4 d_M_moveRow_3 rfl ?_
    refine r_iload_n 2 d_M_moveRow_5 rfl rfl ?_
    refine r_icmp_ge d_M_moveRow_6 (fun h6 => ?_) (fun h6 => ?_)
    · have hge := n_le h6 rfl rfl (by omega) (by omega)
      obtain rfl : i = n := by omega
      refine r_ret d_M_moveRow_58 rfl ?_
      exact ⟨rfl, rfl⟩
    · have hl : i < n := n_lt h6 rfl rfl (by omega) (by omega)
      have e39 : (mvA μ c M i).1 82 39 = nI (M + i) := uI_at
      have ec : (mvA μ c M i).1 100 = μ.1 100 := by rw [mvA, uI_ne (by decide), rI_ne (Ne.symm hc2)]
      refine r_iload_n 3 d_M_moveRow_9 rfl rfl ?_
      refine r_if_eq d_M_moveRow_10 (fun h10 => ?_) (fun h10 => absurd rfl h10)
      refine r_aload_n 1 d_M_moveRow_29 rfl rfl ?_
      refine r_iload 4 d_M_moveRow_30 rfl ?_
      refine r_aload_n 0 d_M_moveRow_32 rfl rfl ?_
      refine r_getR fl_M_66 (by first | with_reducible assumption | rfl) rfl d_M_moveRow_33 ?_
      refine r_aload_n 0 d_M_moveRow_36 rfl rfl ?_
      refine r_getI fl_M_368 (by first | with_reducible assumption | rfl) rfl d_M_moveRow_37 ?_
      rw [e39]
      refine r_ialdN (by first | with_reducible assumption | rfl) (show M + i < 490 by omega) d_M_moveRow_40 ?_
      rw [ec]
      refine r_iastN (by first | with_reducible assumption | rfl) (show i < N by omega) d_M_moveRow_41 ?_
      refine r_aload_n 0 d_M_moveRow_42 rfl rfl ?_
      refine r_dup d_M_moveRow_43 rfl ?_
      refine r_getI fl_M_368 (by first | with_reducible assumption | rfl) rfl d_M_moveRow_44 ?_
      refine r_iconst 1 d_M_moveRow_47 rfl ?_
      refine r_iadd d_M_moveRow_48 ?_
      refine r_putI fp_M_368 (by first | with_reducible assumption | rfl) rfl d_M_moveRow_49 ?_
      first | refine r_iincN 4 [_, _, _, _, _] d_M_moveRow_52 (by decide) rfl rfl ?_ | refine r_iinc 4 [_, _, _, _, _] (1) d_M_moveRow_52 (by decide) (by decide) rfl rfl ?_
      refine r_goto d_M_moveRow_55 ?_
      refine hk _ hl ?_
      rw [uI_ne (c' := 82) (Ne.symm hc), e39, ← nI_succ, mvA, mvA, show M + (i + 1) = M + i + 1 from rfl, ← cut_s]
      refine Me_ext (fun c' j' => ?_) (fun _ _ => rfl)
      by_cases h1 : c' = 82
      · subst h1
        by_cases h2 : j' = 39
        · subst h2; rw [uI_at, uI_at]
        · rw [uI_off h2, uI_off h2, uI_ne (Ne.symm hc), uI_off h2, rI_ne (Ne.symm hc), rI_ne (Ne.symm hc)]
      · rw [uI_ne h1, uI_ne h1]
        by_cases h3 : c' = c
        · subst h3
          rw [uI_eq, uI_ne h1, rI_eq, rI_eq]
        · rw [uI_ne h3, uI_ne h1, rI_ne h3, rI_ne h3]
  · rw [mvA, cut_0, rI_self, Nat.add_zero]
    exact (uI_self hmt).symm
def sgM (μ : Me) : Me := uI (uI (uI μ 82 39 0) 101 0 (μ.1 82 4)) 101 1 (μ.1 82 18)
theorem sg_39 {μ : Me} : (sgM μ).1 82 39 = nI 0 := by rw [sgM, uI_ne (by decide), uI_ne (by decide), uI_at]; rfl
theorem mvK_39 {μ : Me} {c M n : Nat} : (mvK μ c M n).1 82 39 = nI (M + n) := uI_at
theorem mvA_39 {μ : Me} {c M n : Nat} : (mvA μ c M n).1 82 39 = nI (M + n) := uI_at
def kpAll (μ : Me) : Me := mvK (mvK (mvK (mvK (sgM μ) 101 0 2) 83 2 442) 84 444 3) 89 447 36
def agAll (μ : Me) : Me := mvA (mvA (mvA (mvA (sgM μ) 101 0 2) 83 2 442) 84 444 3) 89 447 36
set_option maxHeartbeats 400000 in
theorem c_M_moveAll_k (μ : Me) : CtV m_M_moveAll 1 [.ref 82, .int 1] μ (kpAll μ) := by
  refine Ct.of (ls := [.ref 82, .int 1]) rfl (Nat.le_of_ble_eq_true rfl) rfl (fun X => ?_)
  have e1 : (uI μ 82 39 0).1 82 4 = μ.1 82 4 := uI_off (by decide)
  have e2 : (uI (uI μ 82 39 0) 101 0 (μ.1 82 4)).1 82 18 = μ.1 82 18 := by rw [uI_ne (by decide), uI_off (by decide)]
  refine r_aload_n 0 d_M_moveAll_0 rfl rfl ?_
  refine r_iconst 0 d_M_moveAll_1 rfl ?_
  refine r_putI fp_M_368 (by first | with_reducible assumption | rfl) rfl d_M_moveAll_2 ?_
  refine r_aload_n 0 d_M_moveAll_5 rfl rfl ?_
  refine r_getR fl_M_69 (by first | with_reducible assumption | rfl) rfl d_M_moveAll_6 ?_
  refine r_iconst 0 d_M_moveAll_9 rfl ?_
  refine r_aload_n 0 d_M_moveAll_10 rfl rfl ?_
  refine r_getI fl_M_19 (by first | with_reducible assumption | rfl) rfl d_M_moveAll_11 ?_
  refine r_iastN (by first | with_reducible assumption | rfl) (show 0 < 2 by decide) d_M_moveAll_14 ?_
  refine r_aload_n 0 d_M_moveAll_15 rfl rfl ?_
  refine r_getR fl_M_69 (by first | with_reducible assumption | rfl) rfl d_M_moveAll_16 ?_
  refine r_iconst 1 d_M_moveAll_19 rfl ?_
  refine r_aload_n 0 d_M_moveAll_20 rfl rfl ?_
  refine r_getI fl_M_288 (by first | with_reducible assumption | rfl) rfl d_M_moveAll_21 ?_
  refine r_iastN (by first | with_reducible assumption | rfl) (show 1 < 2 by decide) d_M_moveAll_24 ?_
  rw [e1, e2]
  refine Wa.eqM (μ' := sgM μ) rfl ?_
  refine r_aload_n 0 d_M_moveAll_25 rfl rfl ?_
  refine r_aload_n 0 d_M_moveAll_26 rfl rfl ?_
  refine r_getR fl_M_69 (by first | with_reducible assumption | rfl) rfl d_M_moveAll_27 ?_
  refine r_iconst 2 d_M_moveAll_30 rfl ?_
  refine r_iload_n 1 d_M_moveAll_31 rfl rfl ?_
  refine r_callVv (c_M_moveRow_k (c := 101) (M := 0) (n := 2) (N := 2) rfl (by decide) (by decide) (by decide) (by decide) _ sg_39) lk_M_371 (by first | with_reducible assumption | rfl) d_M_moveAll_32 rfl rfl (Nat.le_of_ble_eq_true rfl) (by decide) ?_
  refine r_aload_n 0 d_M_moveAll_35 rfl rfl ?_
  refine r_aload_n 0 d_M_moveAll_36 rfl rfl ?_
  refine r_getR fl_M_7 (by first | with_reducible assumption | rfl) rfl d_M_moveAll_37 ?_
  refine r_sipush (442) d_M_moveAll_40 (by decide) ?_
  refine r_iload_n 1 d_M_moveAll_43 rfl rfl ?_
  refine r_callVv (c_M_moveRow_k (c := 83) (M := 2) (n := 442) (N := 884) rfl (by decide) (by decide) (by decide) (by decide) _ mvK_39) lk_M_371 (by first | with_reducible assumption | rfl) d_M_moveAll_44 rfl rfl (Nat.le_of_ble_eq_true rfl) (by decide) ?_
  refine r_aload_n 0 d_M_moveAll_47 rfl rfl ?_
  refine r_aload_n 0 d_M_moveAll_48 rfl rfl ?_
  refine r_getR fl_M_13 (by first | with_reducible assumption | rfl) rfl d_M_moveAll_49 ?_
  refine r_iconst 3 d_M_moveAll_52 rfl ?_
  refine r_iload_n 1 d_M_moveAll_53 rfl rfl ?_
  refine r_callVv (c_M_moveRow_k (c := 84) (M := 444) (n := 3) (N := 3) rfl (by decide) (by decide) (by decide) (by decide) _ mvK_39) lk_M_371 (by first | with_reducible assumption | rfl) d_M_moveAll_54 rfl rfl (Nat.le_of_ble_eq_true rfl) (by decide) ?_
  refine r_aload_n 0 d_M_moveAll_57 rfl rfl ?_
  refine r_aload_n 0 d_M_moveAll_58 rfl rfl ?_
  refine r_getR fl_M_32 (by first | with_reducible assumption | rfl) rfl d_M_moveAll_59 ?_
  refine r_bipush (36) d_M_moveAll_62 (by decide) ?_
  refine r_iload_n 1 d_M_moveAll_64 rfl rfl ?_
  refine r_callVv (c_M_moveRow_k (c := 89) (M := 447) (n := 36) (N := 36) rfl (by decide) (by decide) (by decide) (by decide) _ mvK_39) lk_M_371 (by first | with_reducible assumption | rfl) d_M_moveAll_65 rfl rfl (Nat.le_of_ble_eq_true rfl) (by decide) ?_
  refine r_ret d_M_moveAll_68 rfl ?_
  exact ⟨rfl, rfl⟩
set_option maxHeartbeats 400000 in
theorem c_M_moveAll_a (μ : Me) : CtV m_M_moveAll 1 [.ref 82, .int 0] μ (agAll μ) := by
  refine Ct.of (ls := [.ref 82, .int 0]) rfl (Nat.le_of_ble_eq_true rfl) rfl (fun X => ?_)
  have e1 : (uI μ 82 39 0).1 82 4 = μ.1 82 4 := uI_off (by decide)
  have e2 : (uI (uI μ 82 39 0) 101 0 (μ.1 82 4)).1 82 18 = μ.1 82 18 := by rw [uI_ne (by decide), uI_off (by decide)]
  refine r_aload_n 0 d_M_moveAll_0 rfl rfl ?_
  refine r_iconst 0 d_M_moveAll_1 rfl ?_
  refine r_putI fp_M_368 (by first | with_reducible assumption | rfl) rfl d_M_moveAll_2 ?_
  refine r_aload_n 0 d_M_moveAll_5 rfl rfl ?_
  refine r_getR fl_M_69 (by first | with_reducible assumption | rfl) rfl d_M_moveAll_6 ?_
  refine r_iconst 0 d_M_moveAll_9 rfl ?_
  refine r_aload_n 0 d_M_moveAll_10 rfl rfl ?_
  refine r_getI fl_M_19 (by first | with_reducible assumption | rfl) rfl d_M_moveAll_11 ?_
  refine r_iastN (by first | with_reducible assumption | rfl) (show 0 < 2 by decide) d_M_moveAll_14 ?_
  refine r_aload_n 0 d_M_moveAll_15 rfl rfl ?_
  refine r_getR fl_M_69 (by first | with_reducible assumption | rfl) rfl d_M_moveAll_16 ?_
  refine r_iconst 1 d_M_moveAll_19 rfl ?_
  refine r_aload_n 0 d_M_moveAll_20 rfl rfl ?_
  refine r_getI fl_M_288 (by first | with_reducible assumption | rfl) rfl d_M_moveAll_21 ?_
  refine r_iastN (by first | with_reducible assumption | rfl) (show 1 < 2 by decide) d_M_moveAll_24 ?_
  rw [e1, e2]
  refine Wa.eqM (μ' := sgM μ) rfl ?_
  refine r_aload_n 0 d_M_moveAll_25 rfl rfl ?_
  refine r_aload_n 0 d_M_moveAll_26 rfl rfl ?_
  refine r_getR fl_M_69 (by first | with_reducible assumption | rfl) rfl d_M_moveAll_27 ?_
  refine r_iconst 2 d_M_moveAll_30 rfl ?_
  refine r_iload_n 1 d_M_moveAll_31 rfl rfl ?_
  refine r_callVv (c_M_moveRow_a (c := 101) (M := 0) (n := 2) (N := 2) rfl (by decide) (by decide) (by decide) (by decide) _ sg_39) lk_M_371 (by first | with_reducible assumption | rfl) d_M_moveAll_32 rfl rfl (Nat.le_of_ble_eq_true rfl) (by decide) ?_
  refine r_aload_n 0 d_M_moveAll_35 rfl rfl ?_
  refine r_aload_n 0 d_M_moveAll_36 rfl rfl ?_
  refine r_getR fl_M_7 (by first | with_reducible assumption | rfl) rfl d_M_moveAll_37 ?_
  refine r_sipush (442) d_M_moveAll_40 (by decide) ?_
  refine r_iload_n 1 d_M_moveAll_43 rfl rfl ?_
  refine r_callVv (c_M_moveRow_a (c := 83) (M := 2) (n := 442) (N := 884) rfl (by decide) (by decide) (by decide) (by decide) _ mvA_39) lk_M_371 (by first | with_reducible assumption | rfl) d_M_moveAll_44 rfl rfl (Nat.le_of_ble_eq_true rfl) (by decide) ?_
  refine r_aload_n 0 d_M_moveAll_47 rfl rfl ?_
  refine r_aload_n 0 d_M_moveAll_48 rfl rfl ?_
  refine r_getR fl_M_13 (by first | with_reducible assumption | rfl) rfl d_M_moveAll_49 ?_
  refine r_iconst 3 d_M_moveAll_52 rfl ?_
  refine r_iload_n 1 d_M_moveAll_53 rfl rfl ?_
  refine r_callVv (c_M_moveRow_a (c := 84) (M := 444) (n := 3) (N := 3) rfl (by decide) (by decide) (by decide) (by decide) _ mvA_39) lk_M_371 (by first | with_reducible assumption | rfl) d_M_moveAll_54 rfl rfl (Nat.le_of_ble_eq_true rfl) (by decide) ?_
  refine r_aload_n 0 d_M_moveAll_57 rfl rfl ?_
  refine r_aload_n 0 d_M_moveAll_58 rfl rfl ?_
  refine r_getR fl_M_32 (by first | with_reducible assumption | rfl) rfl d_M_moveAll_59 ?_
  refine r_bipush (36) d_M_moveAll_62 (by decide) ?_
  refine r_iload_n 1 d_M_moveAll_64 rfl rfl ?_
  refine r_callVv (c_M_moveRow_a (c := 89) (M := 447) (n := 36) (N := 36) rfl (by decide) (by decide) (by decide) (by decide) _ mvA_39) lk_M_371 (by first | with_reducible assumption | rfl) d_M_moveAll_65 rfl rfl (Nat.le_of_ble_eq_true rfl) (by decide) ?_
  refine r_ret d_M_moveAll_68 rfl ?_
  exact ⟨rfl, rfl⟩
set_option maxHeartbeats 400000 in
theorem c_M_keep (μ : Me) : CtI m_M_keep 2 [.ref 82] μ 1 (uI (kpAll μ) 82 37 1) := by
  refine Ct.of (ls := [.ref 82]) rfl (Nat.le_of_ble_eq_true rfl) rfl (fun X => ?_)
  refine r_aload_n 0 d_M_keep_0 rfl rfl ?_
  refine r_iconst 1 d_M_keep_1 rfl ?_
  refine r_callVv (c_M_moveAll_k _) lk_M_375 (by first | with_reducible assumption | rfl) d_M_keep_2 rfl rfl (Nat.le_of_ble_eq_true rfl) (by decide) ?_
  refine r_aload_n 0 d_M_keep_5 rfl rfl ?_
  refine r_iconst 1 d_M_keep_6 rfl ?_
  refine r_putZ fp_M_379 (by first | with_reducible assumption | rfl) rfl (by first | exact Or.inl rfl | exact Or.inr rfl | assumption) d_M_keep_7 ?_
  refine r_iconst 1 d_M_keep_10 rfl ?_
  refine r_iret .int d_M_keep_11 rfl rfl ?_
  exact ⟨rfl, rfl⟩
set_option maxHeartbeats 400000 in
theorem c_M_again_no (μ : Me) (hk : μ.1 82 37 = 0) : CtI m_M_again 2 [.ref 82] μ (-3) μ := by
  refine Ct.of (ls := [.ref 82]) rfl (Nat.le_of_ble_eq_true rfl) rfl (fun X => ?_)
  refine r_aload_n 0 d_M_again_0 rfl rfl ?_
  refine r_getI fl_M_379 (by first | with_reducible assumption | rfl) rfl d_M_again_1 ?_
  refine r_if_ne d_M_again_4 (fun h4 => absurd hk h4) (fun h4 => ?_)
  refine r_bipush (-3) d_M_again_7 (by decide) ?_
  refine r_iret .int d_M_again_9 rfl rfl ?_
  exact ⟨rfl, rfl⟩
def agM (μ : Me) : Me := uI (uI (agAll μ) 82 4 ((agAll μ).1 101 0)) 82 18 ((agAll μ).1 101 1)
set_option maxHeartbeats 400000 in
theorem c_M_again (μ : Me) (hk : ¬ μ.1 82 37 = 0) : CtI m_M_again 2 [.ref 82] μ ((agAll μ).1 83 0) (agM μ) := by
  refine Ct.of (ls := [.ref 82]) rfl (Nat.le_of_ble_eq_true rfl) rfl (fun X => ?_)
  refine r_aload_n 0 d_M_again_0 rfl rfl ?_
  refine r_getI fl_M_379 (by first | with_reducible assumption | rfl) rfl d_M_again_1 ?_
  refine r_if_ne d_M_again_4 (fun h4 => ?_) (fun h4 => absurd h4 hk)
  refine r_aload_n 0 d_M_again_10 rfl rfl ?_
  refine r_iconst 0 d_M_again_11 rfl ?_
  refine r_callVv (c_M_moveAll_a _) lk_M_375 (by first | with_reducible assumption | rfl) d_M_again_12 rfl rfl (Nat.le_of_ble_eq_true rfl) (by decide) ?_
  refine r_aload_n 0 d_M_again_15 rfl rfl ?_
  refine r_aload_n 0 d_M_again_16 rfl rfl ?_
  refine r_getR fl_M_69 (by first | with_reducible assumption | rfl) rfl d_M_again_17 ?_
  refine r_iconst 0 d_M_again_20 rfl ?_
  refine r_ialdN (j := 0) (by first | with_reducible assumption | rfl) (show 0 < 2 by decide) d_M_again_21 ?_
  refine r_putI fp_M_19 (by first | with_reducible assumption | rfl) rfl d_M_again_22 ?_
  refine r_aload_n 0 d_M_again_25 rfl rfl ?_
  refine r_aload_n 0 d_M_again_26 rfl rfl ?_
  refine r_getR fl_M_69 (by first | with_reducible assumption | rfl) rfl d_M_again_27 ?_
  refine r_iconst 1 d_M_again_30 rfl ?_
  refine r_ialdN (j := 1) (by first | with_reducible assumption | rfl) (show 1 < 2 by decide) d_M_again_31 ?_
  rw [uI_ne (c' := 101) (by decide)]
  refine r_putI fp_M_288 (by first | with_reducible assumption | rfl) rfl d_M_again_32 ?_
  refine r_aload_n 0 d_M_again_35 rfl rfl ?_
  refine r_getR fl_M_7 (by first | with_reducible assumption | rfl) rfl d_M_again_36 ?_
  refine r_iconst 0 d_M_again_39 rfl ?_
  refine r_ialdN (j := 0) (by first | with_reducible assumption | rfl) (show 0 < 884 by decide) d_M_again_40 ?_
  refine r_iret .int d_M_again_41 rfl rfl ?_
  refine ⟨?_, rfl⟩
  rw [uI_ne (by decide), uI_ne (by decide)]
