/-! the reference: lent rows, what won't be known, how often, hardest, slips -/
def ldG (g : Nat → Int32) (n : Nat) : Nat → Int32 := fun i => if 442 ≤ i ∧ i < 442 + n then g (i - 442) else g i
theorem ld_0 {g : Nat → Int32} : ldG g 0 = g := by funext i; rw [ldG, if_neg (by omega)]
theorem ld_s {g : Nat → Int32} {n : Nat} : upd (ldG g n) (442 + n) (g n) = ldG g (n + 1) := by
  funext i
  by_cases h : i = 442 + n
  · rw [upd, if_pos h, ldG, if_pos (by omega), show i - 442 = n by omega]
  · rw [upd, if_neg h, ldG, ldG]
    by_cases h1 : 442 ≤ i ∧ i < 442 + n
    · rw [if_pos h1, if_pos (by omega)]
    · rw [if_neg h1, if_neg (by omega)]
theorem ld_lo {g : Nat → Int32} {n i : Nat} (h : i < 442) : ldG g n i = g i := by rw [ldG, if_neg (by omega)]
theorem ld_hi {g : Nat → Int32} {i : Nat} (h : i < 442) : ldG g 442 (442 + i) = g i := by rw [ldG, if_pos (by omega), show 442 + i - 442 = i by omega]
theorem ld_f {g : Nat → Int32} {l p : Nat} (hl : l < 4) (hp : p < 36) : fM (ldG g 442) 442 l p = fM g 0 l p := by rw [fM, show 442 + 4 + 110 * l + 3 * p = 442 + (0 + 4 + 110 * l + 3 * p) by omega, ld_hi (by omega)]; rfl
theorem ld_r {g : Nat → Int32} {l p : Nat} (hl : l < 4) (hp : p < 36) : rM (ldG g 442) 442 l p = rM g 0 l p := by rw [rM, show 442 + 4 + 110 * l + 3 * p + 1 = 442 + (0 + 4 + 110 * l + 3 * p + 1) by omega, ld_hi (by omega)]; rfl
theorem ld_l {g : Nat → Int32} {l p : Nat} (hl : l < 4) (hp : p < 36) : lM (ldG g 442) 442 l p = lM g 0 l p := by rw [lM, show 442 + 4 + 110 * l + 3 * p + 2 = 442 + (0 + 4 + 110 * l + 3 * p + 2) by omega, ld_hi (by omega)]; rfl
theorem ld_k {g : Nat → Int32} {l : Nat} (hl : l < 4) : kM (ldG g 442) 442 l = kM g 0 l := by rw [kM, show 442 + 2 + 110 * l = 442 + (0 + 2 + 110 * l) by omega, ld_hi (by omega)]; rfl
theorem ld_a {g : Nat → Int32} {l : Nat} (hl : l < 4) : aM (ldG g 442) 442 l = aM g 0 l := by rw [aM, show 442 + 2 + 110 * l + 1 = 442 + (0 + 2 + 110 * l + 1) by omega, ld_hi (by omega)]; rfl
def ldM (μ : Me) : Me := rI (uI μ 82 1 (nI 442)) 83 (ldG (μ.1 83) 442)
theorem uI_uI {μ : Me} {c j : Nat} {a b : Int32} : uI (uI μ c j a) c j b = uI μ c j b := by
  refine Me_ext (fun c' x => ?_) (fun _ _ => rfl)
  by_cases h1 : c' = c
  · subst h1
    by_cases hi : x = j
    · subst hi; rw [uI_at, uI_at]
    · rw [uI_off hi, uI_off hi, uI_off hi]
  · rw [uI_ne h1, uI_ne h1, uI_ne h1]
theorem uI_rIc {μ : Me} {c c' j : Nat} {f : Nat → Int32} {v : Int32} (h : c ≠ c') : uI (rI μ c f) c' j v = rI (uI μ c' j v) c f := by
  refine Me_ext (fun a x => ?_) (fun _ _ => rfl)
  by_cases h1 : a = c'
  · subst h1; rw [rI_ne (Ne.symm h), uI_eq, rI_ne (Ne.symm h), uI_eq]
  · rw [uI_ne h1]
    by_cases h2 : a = c
    · subst h2; rw [rI_eq, rI_eq]
    · rw [rI_ne h2, rI_ne h2, uI_ne h1]
theorem uI_self {μ : Me} {c j : Nat} {v : Int32} (h : μ.1 c j = v) : uI μ c j v = μ := by
  refine Me_ext (fun a x => ?_) (fun _ _ => rfl)
  by_cases h1 : a = c
  · subst h1
    by_cases hi : x = j
    · subst hi; rw [uI_at, h]
    · rw [uI_off hi]
  · rw [uI_ne h1]
set_option maxHeartbeats 400000 in
theorem c_M_lends (μ : Me) : CtV m_M_lends 0 [.ref 82] μ (ldM μ) := by
  refine Ct.of (ls := [.ref 82, flr]) rfl (Nat.le_of_ble_eq_true rfl) rfl (fun X => ?_)
  refine r_aload_n 0 d_M_lends_0 rfl rfl ?_
  refine r_iconst 0 d_M_lends_1 rfl ?_
  refine r_putI fp_M_106 (by first | with_reducible assumption | rfl) rfl d_M_lends_2 ?_
  refine r_iconst 0 d_M_lends_5 rfl ?_
  refine r_istore_n 1 [_, _] d_M_lends_6 rfl (by decide) rfl ?_
  refine lpN 442 (fun i (μ1 : Me) => Wa X m_M_lends 0 7 [.ref 82, .int (nI i)] [] μ1 _) (fun i μ1 => μ1 = rI (uI μ 82 1 0) 83 (ldG (μ.1 83) i)) ?_ 0 _ (Nat.zero_le _) (by rw [ld_0]; exact (rI_self (μ := uI μ 82 1 0) (c := 83)).symm)
  intro i μ1 hi hw hk
  subst hw
  refine r_iload_n 1 d_M_lends_7 rfl rfl ?_
  refine r_sipush (442) d_M_lends_8 (by decide) ?_
  refine r_icmp_ge d_M_lends_11 (fun h11 => ?_) (fun h11 => ?_)
  · refine r_aload_n 0 d_M_lends_36 rfl rfl ?_
    refine r_sipush (442) d_M_lends_37 (by decide) ?_
    refine r_putI fp_M_106 (by first | with_reducible assumption | rfl) rfl d_M_lends_40 ?_
    refine r_ret d_M_lends_43 rfl ?_
    have hge := n_le (a := 442) h11 rfl rfl (by decide) (by omega)
    obtain rfl : i = 442 := by omega
    exact ⟨rfl, by rw [ldM, uI_rIc (by decide), uI_uI]; rfl⟩
  · have hli : i < 442 := n_lt (a := 442) h11 rfl rfl (by decide) (by omega)
    refine r_aload_n 0 d_M_lends_14 rfl rfl ?_
    refine r_getR fl_M_7 (by first | with_reducible assumption | rfl) rfl d_M_lends_15 ?_
    refine r_sipush (442) d_M_lends_18 (by decide) ?_
    refine r_iload_n 1 d_M_lends_21 rfl rfl ?_
    refine r_iadd d_M_lends_22 ?_
    rw [show (442 : Int32) + nI i = nI (442 + i) from nI_add 442 i]
    refine r_aload_n 0 d_M_lends_23 rfl rfl ?_
    refine r_getR fl_M_7 (by first | with_reducible assumption | rfl) rfl d_M_lends_24 ?_
    refine r_iload_n 1 d_M_lends_27 rfl rfl ?_
    refine r_ialdN (by first | with_reducible assumption | rfl) (by first | with_reducible assumption | omega | decide | assumption) d_M_lends_28 ?_
    rw [rI_eq, ld_lo hli]
    refine r_iastN (by first | with_reducible assumption | rfl) (show 442 + i < 884 by omega) d_M_lends_29 ?_
    first | refine r_iincN 1 [_, _] d_M_lends_30 (by decide) rfl rfl ?_ | refine r_iinc 1 [_, _] (1) d_M_lends_30 (by decide) (by decide) rfl rfl ?_
    refine r_goto d_M_lends_33 ?_
    exact hk _ hli (by rw [uI_rI, ld_s])
set_option maxHeartbeats 400000 in
theorem c_M_all (μ : Me) : CtL m_M_all 0 [] μ 68719476735 μ := by
  refine Ct.of (ls := []) rfl (Nat.le_of_ble_eq_true rfl) rfl (fun X => ?_)
  refine r_ldc2 kc_M_200 d_M_all_0 ?_
  refine r_lret d_M_all_3 rfl ?_
  exact ⟨rfl, rfl⟩
set_option maxHeartbeats 400000 in
theorem c_M_friday_no {m : Nat} (hm : m ≤ 4) (l n t : Int32) (μ : Me) (hct : μ.1 83 0 = nI m) (hG : ¬ ((0 ≤ l ∧ l < nI m) ∧ (0 ≤ n ∧ n ≤ 30) ∧ 1 ≤ t ∧ t ≤ 9)) : CtL m_M_friday 7 [.ref 82, .int l, .int n, .int t] μ (-1) μ := by
  refine Ct.of (ls := [.ref 82, .int l, .int n, .int t, flr, flr]) rfl (Nat.le_of_ble_eq_true rfl) rfl (fun X => ?_)
  refine r_aload_n 0 d_M_friday_0 rfl rfl ?_
  refine r_iload_n 1 d_M_friday_1 rfl rfl ?_
  refine r_callVi (c_M_isLearner hm _ _ hct) lk_M_115 (by first | with_reducible assumption | rfl) d_M_friday_2 rfl rfl (Nat.le_of_ble_eq_true rfl) (by decide) ?_
  refine r_if_eq d_M_friday_5 (fun h5 => ?_) (fun h5 => ?_)
  · refine r_ldc2 kc_M_104 d_M_friday_25 ?_
    refine r_lret d_M_friday_28 rfl ?_
    exact ⟨rfl, rfl⟩
  · refine r_iload_n 2 d_M_friday_8 rfl rfl ?_
    refine r_iconst 0 d_M_friday_9 rfl ?_
    refine r_bipush (30) d_M_friday_10 (by decide) ?_
    refine r_callSi (c_M_in _ _ _ _) lk_M_72 d_M_friday_12 rfl rfl (Nat.le_of_ble_eq_true rfl) (by decide) ?_
    refine r_if_eq d_M_friday_15 (fun h15 => ?_) (fun h15 => ?_)
    · refine r_ldc2 kc_M_104 d_M_friday_25 ?_
      refine r_lret d_M_friday_28 rfl ?_
      exact ⟨rfl, rfl⟩
    · refine r_iload_n 3 d_M_friday_18 rfl rfl ?_
      refine r_callSi (c_M_isTime _ _) lk_M_142 d_M_friday_19 rfl rfl (Nat.le_of_ble_eq_true rfl) (by decide) ?_
      refine r_if_ne d_M_friday_22 (fun h22 => ?_) (fun h22 => ?_)
      · exact absurd ⟨bz_p h5, bz_p h15, bz_p h22⟩ hG
      · refine r_ldc2 kc_M_104 d_M_friday_25 ?_
        refine r_lret d_M_friday_28 rfl ?_
        exact ⟨rfl, rfl⟩
theorem RtM.lend {g : Nat → Int32} {m : Nat} (hm : m ≤ 4) (h : RtM g 0 m) : RtM (ldG g 442) 442 m := fun l hl p hp => by rw [ld_r (by omega) hp]; exact h l hl p hp
/-- the lent row behind n nights -/
def frG (g : Nat → Int32) (m : Nat) (w : Int32) (n : Nat) : Nat → Int32 := ngN (ldG g 442) 442 m w n
set_option maxHeartbeats 400000 in
theorem c_M_friday {m j n : Nat} (hm : m ≤ 4) (hj : j < m) (hn : n ≤ 30) (t : Int32) (ht : 1 ≤ t ∧ t ≤ 9) (μ : Me) (hct : μ.1 83 0 = nI m) (hat : μ.1 82 1 = nI 0) (hR : RtM (μ.1 83) 0 m) (hO : LO (frG (μ.1 83) m (μ.1 84 0) n) 442 j) : CtL m_M_friday 7 [.ref 82, .int (nI j), .int (nI n), .int t] μ (68719476735 &&& (knF (kb (frG (μ.1 83) m (μ.1 84 0) n) 442 j t (μ.1 84)) 36 ^^^ -1)) (rI μ 83 (frG (μ.1 83) m (μ.1 84 0) n)) := by
  refine Ct.of (ls := [.ref 82, .int (nI j), .int (nI n), .int t, flr, flr]) rfl (Nat.le_of_ble_eq_true rfl) rfl (fun X => ?_)
  refine r_aload_n 0 d_M_friday_0 rfl rfl ?_
  refine r_iload_n 1 d_M_friday_1 rfl rfl ?_
  refine r_callVi (c_M_isLearner hm _ _ hct) lk_M_115 (by first | with_reducible assumption | rfl) d_M_friday_2 rfl rfl (Nat.le_of_ble_eq_true rfl) (by decide) ?_
  refine r_if_eq d_M_friday_5 (fun h5 => absurd h5 (bzy (nIb hj hm))) (fun h5 => ?_)
  refine r_iload_n 2 d_M_friday_8 rfl rfl ?_
  refine r_iconst 0 d_M_friday_9 rfl ?_
  refine r_bipush (30) d_M_friday_10 (by decide) ?_
  refine r_callSi (c_M_in _ _ _ _) lk_M_72 d_M_friday_12 rfl rfl (Nat.le_of_ble_eq_true rfl) (by decide) ?_
  refine r_if_eq d_M_friday_15 (fun h15 => absurd h15 (bzy ⟨nI_pos' (by omega), nI_le (b := 30) hn (by decide)⟩)) (fun h15 => ?_)
  refine r_iload_n 3 d_M_friday_18 rfl rfl ?_
  refine r_callSi (c_M_isTime _ _) lk_M_142 d_M_friday_19 rfl rfl (Nat.le_of_ble_eq_true rfl) (by decide) ?_
  refine r_if_ne d_M_friday_22 (fun h22 => ?_) (fun h22 => absurd h22 (bzy ht))
  refine r_aload_n 0 d_M_friday_29 rfl rfl ?_
  refine r_callVv (c_M_lends _) lk_M_202 (by first | with_reducible assumption | rfl) d_M_friday_30 rfl rfl (Nat.le_of_ble_eq_true rfl) (by decide) ?_
  refine r_iconst 0 d_M_friday_33 rfl ?_
  refine r_istore 4 [_, _, _, _, _, _] d_M_friday_34 (by decide) rfl ?_
  refine lpN n (fun i (μ1 : Me) => Wa X m_M_friday 7 36 [.ref 82, .int (nI j), .int (nI n), .int t, .int (nI i), flr] [] μ1 _) (fun i μ1 => μ1 = rI (uI μ 82 1 (nI 442)) 83 (frG (μ.1 83) m (μ.1 84 0) i)) ?_ 0 _ (Nat.zero_le _) rfl
  intro i μ1 hi hw hk
  subst hw
  refine r_iload 4 d_M_friday_36 rfl ?_
  refine r_iload_n 2 d_M_friday_38 rfl rfl ?_
  refine r_icmp_ge d_M_friday_39 (fun h39 => ?_) (fun h39 => ?_)
  · have hge := n_le h39 rfl rfl (by omega) (by omega)
    obtain rfl : i = n := by omega
    refine r_callSl (c_M_all _) lk_M_205 d_M_friday_52 rfl rfl (Nat.le_of_ble_eq_true rfl) (by decide) ?_
    refine r_aload_n 0 d_M_friday_55 rfl rfl ?_
    refine r_iload_n 1 d_M_friday_56 rfl rfl ?_
    refine r_iload_n 3 d_M_friday_57 rfl rfl ?_
    refine r_callVl (c_M_knownSet (A := 442) (by decide) (show j < 4 by omega) t ht _ rfl (by rw [rI_eq]; exact hO)) lk_M_196 (by first | with_reducible assumption | rfl) d_M_friday_58 rfl rfl (Nat.le_of_ble_eq_true rfl) (by decide) ?_
    rw [rI_eq, rI_ne (show 84 ≠ 83 by decide), uI_ne (show 84 ≠ 82 by decide)]
    refine r_ldc2 kc_M_104 d_M_friday_61 ?_
    refine r_lxor d_M_friday_64 ?_
    refine r_land d_M_friday_65 ?_
    refine r_lstore 4 [_, _, _, _, _, _] d_M_friday_66 (by decide) rfl ?_
    refine r_aload_n 0 d_M_friday_68 rfl rfl ?_
    refine r_iconst 0 d_M_friday_69 rfl ?_
    refine r_putI fp_M_106 (by first | with_reducible assumption | rfl) rfl d_M_friday_70 ?_
    refine r_lload 4 d_M_friday_73 rfl ?_
    refine r_lret d_M_friday_75 rfl ?_
    refine ⟨rfl, ?_⟩
    rw [uI_rIc (by decide), uI_uI, uI_self (show μ.1 82 1 = 0 from hat)]
  · have hli : i < n := n_lt h39 rfl rfl (by omega) (by omega)
    refine r_aload_n 0 d_M_friday_42 rfl rfl ?_
    refine r_callVv (c_M_nightGoes (A := 442) (m := m) (by decide) hm _ rfl (by rw [rI_eq, frG, nN_A]; exact hct) (by rw [rI_eq]; exact (hR.lend hm).ngN _)) lk_M_190 (by first | with_reducible assumption | rfl) d_M_friday_43 rfl rfl (Nat.le_of_ble_eq_true rfl) (by decide) ?_
    first | refine r_iincN 4 [_, _, _, _, _, _] d_M_friday_46 (by decide) rfl rfl ?_ | refine r_iinc 4 [_, _, _, _, _, _] (1) d_M_friday_46 (by decide) (by decide) rfl rfl ?_
    refine r_goto d_M_friday_49 ?_
    refine hk _ hli ?_
    rw [rI_rI, rI_eq, rI_ne (by decide), uI_ne (by decide), frG, frG, ngN]
def tillE (lv : Int32) : Nat → Int32 → Bool
  | 0, _ => false
  | k + 1, f => if f < lv then tillE lv k (toldS f) else true
theorem tillE_mono {lv lv' : Int32} (h : lv ≤ lv') : ∀ (k : Nat) (f : Int32), tillE lv' k f = true → tillE lv k f = true
  | 0, _, e => e
  | k + 1, f, e => by
    rw [tillE] at e ⊢
    by_cases h1 : f < lv
    · rw [if_pos h1]; rw [if_pos (Int32.lt_of_lt_of_le h1 h)] at e; exact tillE_mono h k _ e
    · rw [if_neg h1]
theorem tillE_100 : ∀ n, n ≤ 100 → tillE 100 99 (nI n) = true := by decide +kernel
theorem told_r {f : Int32} (h : 0 ≤ f ∧ f ≤ 100) : 0 ≤ toldS f ∧ toldS f ≤ 100 := by
  obtain ⟨n, hn, rfl⟩ := nI_of2 (M := 100) (n := 100) (by decide) (Int32.not_lt.mpr h.1) h.2
  revert n
  decide +kernel
set_option maxHeartbeats 400000 in
theorem c_M_till_loop (X : Nat × (Nat → Int32)) (μ : Me) (l p lv : Int32) (N : Nat) : ∀ (k n : Nat) (f : Int32), 0 ≤ f ∧ f ≤ 100 → tillE lv k f = true → tillF lv k f n = N → Wa X m_M_till 2 38 [.ref 82, .int l, .int p, .int lv, .int f, .int (nI n)] [] μ (fun r μ' => r = some (.int (nI N)) ∧ μ' = μ) := by
  intro k
  induction k with
  | zero => intro n f _ he; exact absurd he (by rw [tillE]; decide)
  | succ k ih =>
    intro n f hf he hN
    refine r_iload 4 d_M_till_38 rfl ?_
    refine r_iload_n 3 d_M_till_40 rfl rfl ?_
    refine r_icmp_ge d_M_till_41 (fun h41 => ?_) (fun h41 => ?_)
    · refine r_iload 5 d_M_till_68 rfl ?_
      refine r_iret .int d_M_till_70 rfl rfl ?_
      rw [tillF, if_neg (Int32.not_lt.mpr h41)] at hN
      exact ⟨by rw [hN], rfl⟩
    · refine r_iload 4 d_M_till_44 rfl ?_
      refine r_bipush (100) d_M_till_46 (by decide) ?_
      refine r_iload 4 d_M_till_48 rfl ?_
      refine r_isub d_M_till_50 ?_
      refine r_bipush (6) d_M_till_51 (by decide) ?_
      refine r_idiv d_M_till_53 (by first | decide | assumption) ?_
      refine r_iadd d_M_till_54 ?_
      refine r_iconst 1 d_M_till_55 rfl ?_
      refine r_iadd d_M_till_56 ?_
      refine r_callSi (c_M_kept _ _) lk_M_139 d_M_till_57 rfl rfl (Nat.le_of_ble_eq_true rfl) (by decide) ?_
      rw [told_e hf]
      refine r_istore 4 [_, _, _, _, _, _] d_M_till_60 (by decide) rfl ?_
      first | refine r_iincN 5 [_, _, _, _, _, _] d_M_till_62 (by decide) rfl rfl ?_ | refine r_iinc 5 [_, _, _, _, _, _] (1) d_M_till_62 (by decide) (by decide) rfl rfl ?_
      refine r_goto d_M_till_65 ?_
      have h41' := Int32.not_le.mp h41
      rw [tillE, if_pos h41'] at he
      rw [tillF, if_pos h41'] at hN
      exact ih _ _ (told_r hf) he hN
set_option maxHeartbeats 400000 in
theorem c_M_till_no {m : Nat} (hm : m ≤ 4) (l p lv : Int32) (μ : Me) (hct : μ.1 83 0 = nI m) (hG : ¬ ((0 ≤ l ∧ l < nI m) ∧ (0 ≤ p ∧ p < 36) ∧ 0 ≤ lv ∧ lv ≤ 100)) : CtI m_M_till 2 [.ref 82, .int l, .int p, .int lv] μ (-1) μ := by
  refine Ct.of (ls := [.ref 82, .int l, .int p, .int lv, flr, flr]) rfl (Nat.le_of_ble_eq_true rfl) rfl (fun X => ?_)
  refine r_aload_n 0 d_M_till_0 rfl rfl ?_
  refine r_iload_n 1 d_M_till_1 rfl rfl ?_
  refine r_callVi (c_M_isLearner hm _ _ hct) lk_M_115 (by first | with_reducible assumption | rfl) d_M_till_2 rfl rfl (Nat.le_of_ble_eq_true rfl) (by decide) ?_
  refine r_if_eq d_M_till_5 (fun h5 => ?_) (fun h5 => ?_)
  · refine r_iconst (-1) d_M_till_25 rfl ?_
    refine r_iret .int d_M_till_26 rfl rfl ?_
    exact ⟨rfl, rfl⟩
  · refine r_iload_n 2 d_M_till_8 rfl rfl ?_
    refine r_callSi (c_M_isPair _ _) lk_M_91 d_M_till_9 rfl rfl (Nat.le_of_ble_eq_true rfl) (by decide) ?_
    refine r_if_eq d_M_till_12 (fun h12 => ?_) (fun h12 => ?_)
    · refine r_iconst (-1) d_M_till_25 rfl ?_
      refine r_iret .int d_M_till_26 rfl rfl ?_
      exact ⟨rfl, rfl⟩
    · refine r_iload_n 3 d_M_till_15 rfl rfl ?_
      refine r_iconst 0 d_M_till_16 rfl ?_
      refine r_bipush (100) d_M_till_17 (by decide) ?_
      refine r_callSi (c_M_in _ _ _ _) lk_M_72 d_M_till_19 rfl rfl (Nat.le_of_ble_eq_true rfl) (by decide) ?_
      refine r_if_ne d_M_till_22 (fun h22 => ?_) (fun h22 => ?_)
      · exact absurd ⟨bz_p h5, bz_p h12, bz_p h22⟩ hG
      · refine r_iconst (-1) d_M_till_25 rfl ?_
        refine r_iret .int d_M_till_26 rfl rfl ?_
        exact ⟨rfl, rfl⟩
set_option maxHeartbeats 400000 in
theorem c_M_till {m j p : Nat} (hm : m ≤ 4) (hj : j < m) (hp : p < 36) (lv : Int32) (hlv : 0 ≤ lv ∧ lv ≤ 100) (μ : Me) (hct : μ.1 83 0 = nI m) (hat : μ.1 82 1 = nI 0) (hO : LO (μ.1 83) 0 j) : CtI m_M_till 2 [.ref 82, .int (nI j), .int (nI p), .int lv] μ (nI (tillF lv 99 (fM (μ.1 83) 0 j p) 0)) μ := by
  refine Ct.of (ls := [.ref 82, .int (nI j), .int (nI p), .int lv, flr, flr]) rfl (Nat.le_of_ble_eq_true rfl) rfl (fun X => ?_)
  refine r_aload_n 0 d_M_till_0 rfl rfl ?_
  refine r_iload_n 1 d_M_till_1 rfl rfl ?_
  refine r_callVi (c_M_isLearner hm _ _ hct) lk_M_115 (by first | with_reducible assumption | rfl) d_M_till_2 rfl rfl (Nat.le_of_ble_eq_true rfl) (by decide) ?_
  refine r_if_eq d_M_till_5 (fun h5 => absurd h5 (bzy (nIb hj hm))) (fun h5 => ?_)
  refine r_iload_n 2 d_M_till_8 rfl rfl ?_
  refine r_callSi (c_M_isPair _ _) lk_M_91 d_M_till_9 rfl rfl (Nat.le_of_ble_eq_true rfl) (by decide) ?_
  refine r_if_eq d_M_till_12 (fun h12 => absurd h12 (bzy (pIb hp))) (fun h12 => ?_)
  refine r_iload_n 3 d_M_till_15 rfl rfl ?_
  refine r_iconst 0 d_M_till_16 rfl ?_
  refine r_bipush (100) d_M_till_17 (by decide) ?_
  refine r_callSi (c_M_in _ _ _ _) lk_M_72 d_M_till_19 rfl rfl (Nat.le_of_ble_eq_true rfl) (by decide) ?_
  refine r_if_ne d_M_till_22 (fun h22 => ?_) (fun h22 => absurd h22 (bzy hlv))
  refine r_aload_n 0 d_M_till_27 rfl rfl ?_
  refine r_iload_n 1 d_M_till_28 rfl rfl ?_
  refine r_iload_n 2 d_M_till_29 rfl rfl ?_
  refine r_callVi (c_M_firmOf (A := 0) (by decide) (show j < 4 by omega) hp _ hat) lk_M_112 (by first | with_reducible assumption | rfl) d_M_till_30 rfl rfl (Nat.le_of_ble_eq_true rfl) (by decide) ?_
  refine r_istore 4 [_, _, _, _, _, _] d_M_till_33 (by decide) rfl ?_
  refine r_iconst 0 d_M_till_35 rfl ?_
  refine r_istore 5 [_, _, _, _, _, _] d_M_till_36 (by decide) rfl ?_
  refine c_M_till_loop X μ _ _ _ _ 99 0 _ (hO.2 p hp) ?_ rfl
  obtain ⟨n, hn, en⟩ := nI_of2 (M := 100) (n := 100) (by decide) (Int32.not_lt.mpr (hO.2 p hp).1) (hO.2 p hp).2
  rw [en]
  exact tillE_mono hlv.2 _ _ (tillE_100 n hn)
def akn (g : Nat → Int32) (t : Int32) (w : Nat → Int32) (m p : Nat) : Nat := hmkF (fun l => kb g 0 l t w p) m
theorem akn_le {g : Nat → Int32} {t : Int32} {w : Nat → Int32} {m p : Nat} (hm : m ≤ 4) : akn g t w m p ≤ 4 := Nat.le_trans (hmkF_le _ m) hm
set_option maxHeartbeats 400000 in
theorem c_M_hardest_bad {t : Int32} (hP : ¬ (1 ≤ t ∧ t ≤ 9)) (μ : Me) : CtI m_M_hardest 6 [.ref 82, .int t] μ (-1) μ := by
  refine Ct.of (ls := [.ref 82, .int t, flr, flr, flr, flr, flr]) rfl (Nat.le_of_ble_eq_true rfl) rfl (fun X => ?_)
  refine r_iload_n 1 d_M_hardest_0 rfl rfl ?_
  refine r_callSi (c_M_isTime _ _) lk_M_142 d_M_hardest_1 rfl rfl (Nat.le_of_ble_eq_true rfl) (by decide) ?_
  refine r_if_ne d_M_hardest_4 (fun h4 => absurd (bzn hP) h4) (fun h4 => ?_)
  refine r_iconst (-1) d_M_hardest_7 rfl ?_
  refine r_iret .int d_M_hardest_8 rfl rfl ?_
  exact ⟨rfl, rfl⟩
set_option maxHeartbeats 400000 in
theorem c_M_hardest_none {t : Int32} (hP : 1 ≤ t ∧ t ≤ 9) (μ : Me) (hct : μ.1 83 0 = nI 0) : CtI m_M_hardest 6 [.ref 82, .int t] μ (-3) μ := by
  refine Ct.of (ls := [.ref 82, .int t, flr, flr, flr, flr, flr]) rfl (Nat.le_of_ble_eq_true rfl) rfl (fun X => ?_)
  refine r_iload_n 1 d_M_hardest_0 rfl rfl ?_
  refine r_callSi (c_M_isTime _ _) lk_M_142 d_M_hardest_1 rfl rfl (Nat.le_of_ble_eq_true rfl) (by decide) ?_
  refine r_if_ne d_M_hardest_4 (fun h4 => ?_) (fun h4 => absurd h4 (bzy hP))
  refine r_aload_n 0 d_M_hardest_9 rfl rfl ?_
  refine r_getR fl_M_7 (by first | with_reducible assumption | rfl) rfl d_M_hardest_10 ?_
  refine r_iconst 0 d_M_hardest_13 rfl ?_
  refine r_ialdN (j := 0) (by first | with_reducible assumption | rfl) (by first | with_reducible assumption | omega | decide | assumption) d_M_hardest_14 ?_
  refine r_if_ne d_M_hardest_15 (fun h15 => absurd hct h15) (fun h15 => ?_)
  refine r_bipush (-3) d_M_hardest_18 (by decide) ?_
  refine r_iret .int d_M_hardest_20 rfl rfl ?_
  exact ⟨rfl, rfl⟩
set_option maxHeartbeats 400000 in
theorem c_M_hardest {t : Int32} {m : Nat} (hP : 1 ≤ t ∧ t ≤ 9) (h0 : 0 < m) (hm : m ≤ 4) (μ : Me) (hct : μ.1 83 0 = nI m) (hat : μ.1 82 1 = nI 0) (hO : ∀ l, l < m → LO (μ.1 83) 0 l) : CtI m_M_hardest 6 [.ref 82, .int t] μ (nI (hdF (akn (μ.1 83) t (μ.1 84) m) 36).1) μ := by
  refine Ct.of (ls := [.ref 82, .int t, flr, flr, flr, flr, flr]) rfl (Nat.le_of_ble_eq_true rfl) rfl (fun X => ?_)
  refine r_iload_n 1 d_M_hardest_0 rfl rfl ?_
  refine r_callSi (c_M_isTime _ _) lk_M_142 d_M_hardest_1 rfl rfl (Nat.le_of_ble_eq_true rfl) (by decide) ?_
  refine r_if_ne d_M_hardest_4 (fun h4 => ?_) (fun h4 => absurd h4 (bzy hP))
  refine r_aload_n 0 d_M_hardest_9 rfl rfl ?_
  refine r_getR fl_M_7 (by first | with_reducible assumption | rfl) rfl d_M_hardest_10 ?_
  refine r_iconst 0 d_M_hardest_13 rfl ?_
  refine r_ialdN (j := 0) (by first | with_reducible assumption | rfl) (by first | with_reducible assumption | omega | decide | assumption) d_M_hardest_14 ?_
  refine r_if_ne d_M_hardest_15 (fun h15 => ?_) (fun h15 => absurd h15 (fun z => absurd (hct ▸ z) (nI_ne0 h0 (by omega))))
  refine r_iconst (-1) d_M_hardest_21 rfl ?_
  refine r_istore_n 2 [_, _, _, _, _, _, _] d_M_hardest_22 rfl (by decide) rfl ?_
  refine r_iconst 0 d_M_hardest_23 rfl ?_
  refine r_istore_n 3 [_, _, _, _, _, _, _] d_M_hardest_24 rfl (by decide) rfl ?_
  refine r_iconst 0 d_M_hardest_25 rfl ?_
  refine r_istore 4 [_, _, _, _, _, _, _] d_M_hardest_26 (by decide) rfl ?_
  refine lpN 36 (fun i (v : Int32 × Int32) => ∀ z1 z2 : Value, Wa X m_M_hardest 6 28 [.ref 82, .int t, .int v.1, .int v.2, .int (nI i), z1, z2] [] μ _) (fun i v => (i = 0 ∧ v = (-1, 0)) ∨ (0 < i ∧ v = (nI (hdF (akn (μ.1 83) t (μ.1 84) m) i).1, nI (hdF (akn (μ.1 83) t (μ.1 84) m) i).2))) ?_ 0 (-1, 0) (Nat.zero_le _) (Or.inl ⟨rfl, rfl⟩) _ _
  intro i v hi hv hk z1 z2
  refine r_iload 4 d_M_hardest_28 rfl ?_
  refine r_bipush (36) d_M_hardest_30 (by decide) ?_
  refine r_icmp_ge d_M_hardest_32 (fun h32 => ?_) (fun h32 => ?_)
  · refine r_iload_n 2 d_M_hardest_102 rfl rfl ?_
    refine r_iret .int d_M_hardest_103 rfl rfl ?_
    have hge := n_le (a := 36) h32 rfl rfl (by decide) (by omega)
    obtain rfl : i = 36 := by omega
    rcases hv with ⟨z, -⟩ | ⟨-, hv⟩
    · exact absurd z (by decide)
    · exact ⟨by rw [hv], rfl⟩
  · have hli : i < 36 := n_lt (a := 36) h32 rfl rfl (by decide) (by omega)
    refine r_iconst 0 d_M_hardest_35 rfl ?_
    refine r_istore 5 [_, _, _, _, _, _, _] d_M_hardest_36 (by decide) rfl ?_
    refine r_iconst 0 d_M_hardest_38 rfl ?_
    refine r_istore 6 [_, _, _, _, _, _, _] d_M_hardest_39 (by decide) rfl ?_
    have lp := lpN m (fun l (c : Nat) => Wa X m_M_hardest 6 41 [.ref 82, .int t, .int v.1, .int v.2, .int (nI i), .int (nI c), .int (nI l)] [] μ (fun r μ' => r = some (.int (nI (hdF (akn (μ.1 83) t (μ.1 84) m) 36).1)) ∧ μ' = μ)) (fun l c => c = hmkF (fun l => kb (μ.1 83) 0 l t (μ.1 84) i) l) ?_ 0 0 (Nat.zero_le _) rfl
    · exact lp
    · intro l c hl hc hkk
      refine r_iload 6 d_M_hardest_41 rfl ?_
      refine r_aload_n 0 d_M_hardest_43 rfl rfl ?_
      refine r_getR fl_M_7 (by first | with_reducible assumption | rfl) rfl d_M_hardest_44 ?_
      refine r_iconst 0 d_M_hardest_47 rfl ?_
      refine r_ialdN (j := 0) (by first | with_reducible assumption | rfl) (by first | with_reducible assumption | omega | decide | assumption) d_M_hardest_48 ?_
      rw [hct]
      refine r_icmp_ge d_M_hardest_49 (fun h49 => ?_) (fun h49 => ?_)
      · have hge := n_le h49 rfl rfl (by omega) (by omega)
        obtain rfl : l = m := by omega
        have hc' : c = akn (μ.1 83) t (μ.1 84) l i := hc
        have hc4 : c ≤ 4 := by rw [hc']; exact akn_le hm
        rcases hv with ⟨rfl, rfl⟩ | ⟨hi0, rfl⟩
        · refine r_iload_n 2 d_M_hardest_80 rfl rfl ?_
          refine r_if_lt d_M_hardest_81 (fun h81 => ?_) (fun h81 => absurd (by decide) h81)
          refine r_iload 4 d_M_hardest_90 rfl ?_
          refine r_istore_n 2 [_, _, _, _, _, _, _] d_M_hardest_92 rfl (by decide) rfl ?_
          refine r_iload 5 d_M_hardest_93 rfl ?_
          refine r_istore_n 3 [_, _, _, _, _, _, _] d_M_hardest_95 rfl (by decide) rfl ?_
          first | refine r_iincN 4 [_, _, _, _, _, _, _] d_M_hardest_96 (by decide) rfl rfl ?_ | refine r_iinc 4 [_, _, _, _, _, _, _] (1) d_M_hardest_96 (by decide) (by decide) rfl rfl ?_
          refine r_goto d_M_hardest_99 ?_
          refine hk (nI 0, nI c) hli (Or.inr ⟨by omega, ?_⟩) _ _
          rw [hdF, hdF, ← hc', if_pos (show c < 5 by omega)]
        · have hh2 := hdF_lt (akn (μ.1 83) t (μ.1 84) l) (fun _ => akn_le hm) i
          have hb1 : (hdF (akn (μ.1 83) t (μ.1 84) l) i).1 ≤ 36 := by omega
          have hb2 : (hdF (akn (μ.1 83) t (μ.1 84) l) i).2 ≤ 5 := by omega
          refine r_iload_n 2 d_M_hardest_80 rfl rfl ?_
          refine r_if_lt d_M_hardest_81 (fun h81 => absurd h81 (nI_pos (by omega))) (fun h81 => ?_)
          refine r_iload 5 d_M_hardest_84 rfl ?_
          refine r_iload_n 3 d_M_hardest_86 rfl rfl ?_
          refine r_icmp_ge d_M_hardest_87 (fun h87 => ?_) (fun h87 => ?_)
          · first | refine r_iincN 4 [_, _, _, _, _, _, _] d_M_hardest_96 (by decide) rfl rfl ?_ | refine r_iinc 4 [_, _, _, _, _, _, _] (1) d_M_hardest_96 (by decide) (by decide) rfl rfl ?_
            refine r_goto d_M_hardest_99 ?_
            first
              | (have z87 := (nI_leI (by omega) (by omega)).mp h87
                 refine hk (nI (hdF (akn (μ.1 83) t (μ.1 84) l) i).1, nI (hdF (akn (μ.1 83) t (μ.1 84) l) i).2) hli (Or.inr ⟨by omega, ?_⟩) _ _
                 rw [hdF, ← hc', if_neg (by omega)])
              | (have z87 := mt (nI_leI (a := (hdF (akn (μ.1 83) t (μ.1 84) l) i).2) (b := c) (by omega) (by omega)).mpr h87
                 refine hk (nI i, nI c) hli (Or.inr ⟨by omega, ?_⟩) _ _
                 rw [hdF, ← hc', if_pos (by omega)])
          · refine r_iload 4 d_M_hardest_90 rfl ?_
            refine r_istore_n 2 [_, _, _, _, _, _, _] d_M_hardest_92 rfl (by decide) rfl ?_
            refine r_iload 5 d_M_hardest_93 rfl ?_
            refine r_istore_n 3 [_, _, _, _, _, _, _] d_M_hardest_95 rfl (by decide) rfl ?_
            first | refine r_iincN 4 [_, _, _, _, _, _, _] d_M_hardest_96 (by decide) rfl rfl ?_ | refine r_iinc 4 [_, _, _, _, _, _, _] (1) d_M_hardest_96 (by decide) (by decide) rfl rfl ?_
            refine r_goto d_M_hardest_99 ?_
            first
              | (have z87 := (nI_leI (by omega) (by omega)).mp h87
                 refine hk (nI (hdF (akn (μ.1 83) t (μ.1 84) l) i).1, nI (hdF (akn (μ.1 83) t (μ.1 84) l) i).2) hli (Or.inr ⟨by omega, ?_⟩) _ _
                 rw [hdF, ← hc', if_neg (by omega)])
              | (have z87 := mt (nI_leI (a := (hdF (akn (μ.1 83) t (μ.1 84) l) i).2) (b := c) (by omega) (by omega)).mpr h87
                 refine hk (nI i, nI c) hli (Or.inr ⟨by omega, ?_⟩) _ _
                 rw [hdF, ← hc', if_pos (by omega)])
      · have hll : l < m := n_lt h49 rfl rfl (by omega) (by omega)
        refine r_iload 5 d_M_hardest_52 rfl ?_
        refine r_aload_n 0 d_M_hardest_54 rfl rfl ?_
        refine r_iload 6 d_M_hardest_55 rfl ?_
        refine r_iload 4 d_M_hardest_57 rfl ?_
        refine r_iload_n 1 d_M_hardest_59 rfl rfl ?_
        refine r_callVi (c_M_isKnown (A := 0) (by decide) (show l < 4 by omega) hli t hP _ hat (hO l hll)) lk_M_193 (by first | with_reducible assumption | rfl) d_M_hardest_60 rfl rfl (Nat.le_of_ble_eq_true rfl) (by decide) ?_
        refine r_if_eq d_M_hardest_63 (fun h63 => ?_) (fun h63 => ?_)
        · refine r_iconst 0 d_M_hardest_70 rfl ?_
          refine r_iadd d_M_hardest_71 ?_
          refine r_istore 5 [_, _, _, _, _, _, _] d_M_hardest_72 (by decide) rfl ?_
          first | refine r_iincN 6 [_, _, _, _, _, _, _] d_M_hardest_74 (by decide) rfl rfl ?_ | refine r_iinc 6 [_, _, _, _, _, _, _] (1) d_M_hardest_74 (by decide) (by decide) rfl rfl ?_
          refine r_goto d_M_hardest_77 ?_
          first
            | (have z63 := bz_np h63
               rw [Int32.add_zero]
               refine hkk _ hll ?_
               rw [hmkF, if_neg z63, hc])
            | (have z63 := bz_p h63
               rw [← nI_succ]
               refine hkk _ hll ?_
               rw [hmkF, if_pos z63, hc])
        · refine r_iconst 1 d_M_hardest_66 rfl ?_
          refine r_goto d_M_hardest_67 ?_
          refine r_iadd d_M_hardest_71 ?_
          refine r_istore 5 [_, _, _, _, _, _, _] d_M_hardest_72 (by decide) rfl ?_
          first | refine r_iincN 6 [_, _, _, _, _, _, _] d_M_hardest_74 (by decide) rfl rfl ?_ | refine r_iinc 6 [_, _, _, _, _, _, _] (1) d_M_hardest_74 (by decide) (by decide) rfl rfl ?_
          refine r_goto d_M_hardest_77 ?_
          first
            | (have z63 := bz_np h63
               rw [Int32.add_zero]
               refine hkk _ hll ?_
               rw [hmkF, if_neg z63, hc])
            | (have z63 := bz_p h63
               rw [← nI_succ]
               refine hkk _ hll ?_
               rw [hmkF, if_pos z63, hc])
