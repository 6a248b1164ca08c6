/-! the reference's answers -/
def LO (g : Nat → Int32) (A l : Nat) : Prop := (0 ≤ aM g A l ∧ aM g A l ≤ 40) ∧ ∀ p, p < 36 → 0 ≤ fM g A l p ∧ fM g A l p ≤ 100
theorem feel_e1 {a f t : Int32} (ha : 0 ≤ a ∧ a ≤ 40) (hf : 0 ≤ f ∧ f ≤ 100) (h : t < 3) : kpS (f - a) = feelS 3 a f t := by
  rw [feelS, if_pos ⟨rfl, h⟩, kpS]
  grind
theorem feel_e2 {a f t : Int32} (h : ¬ t < 3) : f = feelS 3 a f t := by
  rw [feelS, if_neg (fun z => h z.2), if_neg (by decide)]
theorem feel_e3 {a f t : Int32} (ha : 0 ≤ a ∧ a ≤ 40) (hf : 0 ≤ f ∧ f ≤ 100) : kpS (f + a) = feelS 4 a f t := by
  rw [feelS, if_neg (fun z => absurd z.1 (by decide)), if_pos rfl, kpS]
  grind
theorem feel_e4 {k a f t : Int32} (h3 : ¬ k = 3) (h4 : ¬ k = 4) : f = feelS k a f t := by
  rw [feelS, if_neg (fun z => h3 z.1), if_neg h4]
theorem feel_ge {k a f t : Int32} (ha : 0 ≤ a ∧ a ≤ 40) (hf : 0 ≤ f ∧ f ≤ 100) : 0 ≤ feelS k a f t ∧ feelS k a f t ≤ 100 := by
  unfold feelS
  grind
set_option maxHeartbeats 400000 in
theorem c_M_feelOf {A l p : Nat} (hA : A ≤ 442) (hl : l < 4) (hp : p < 36) (t : Int32) (μ : Me) (hat : μ.1 82 1 = nI A) (hO : LO (μ.1 83) A l) : CtI m_M_feelOf 2 [.ref 82, .int (nI l), .int (nI p), .int t] μ (feelS (kM (μ.1 83) A l) (aM (μ.1 83) A l) (fM (μ.1 83) A l p) t) μ := by
  refine Ct.of (ls := [.ref 82, .int (nI l), .int (nI p), .int t, flr]) rfl (Nat.le_of_ble_eq_true rfl) rfl (fun X => ?_)
  refine r_aload_n 0 d_M_feelOf_0 rfl rfl ?_
  refine r_iload_n 1 d_M_feelOf_1 rfl rfl ?_
  refine r_iload_n 2 d_M_feelOf_2 rfl rfl ?_
  refine r_callVi (c_M_firmOf hA hl hp _ hat) lk_M_112 (by first | with_reducible assumption | rfl) d_M_feelOf_3 rfl rfl (Nat.le_of_ble_eq_true rfl) (by decide) ?_
  refine r_istore 4 [_, _, _, _, _] d_M_feelOf_6 (by decide) rfl ?_
  refine r_aload_n 0 d_M_feelOf_8 rfl rfl ?_
  refine r_iload_n 1 d_M_feelOf_9 rfl rfl ?_
  refine r_callVi (c_M_kindOf hA hl _ hat) lk_M_118 (by first | with_reducible assumption | rfl) d_M_feelOf_10 rfl rfl (Nat.le_of_ble_eq_true rfl) (by decide) ?_
  refine r_ls d_M_feelOf_13 (List.forall_mem_cons.mpr ⟨fun h13 => ?_, List.forall_mem_cons.mpr ⟨fun h13 => ?_, fun _ h => absurd h List.not_mem_nil⟩⟩) (fun h13 => ?_)
  · refine r_iload_n 3 d_M_feelOf_40 rfl rfl ?_
    refine r_iconst 3 d_M_feelOf_41 rfl ?_
    refine r_icmp_ge d_M_feelOf_42 (fun h42 => ?_) (fun h42 => ?_)
    · refine r_iload 4 d_M_feelOf_59 rfl ?_
      refine r_iret .int d_M_feelOf_61 rfl rfl ?_
      refine ⟨?_, rfl⟩
      first
        | (have ek : kM (μ.1 83) A l = 3 := h13; rw [ek, ← feel_e1 hO.1 (hO.2 p hp) (Int32.not_le.mp h42)])
        | (have ek : kM (μ.1 83) A l = 3 := h13; rw [ek, ← feel_e2 (Int32.not_lt.mpr h42)])
        | (have ek : kM (μ.1 83) A l = 4 := h13; rw [ek, ← feel_e3 hO.1 (hO.2 p hp)])
        | (have z3 := h13 (3, 40) (by simp); have z4 := h13 (4, 62) (by simp); rw [← feel_e4 z3 z4])
    · refine r_iload 4 d_M_feelOf_45 rfl ?_
      refine r_aload_n 0 d_M_feelOf_47 rfl rfl ?_
      refine r_iload_n 1 d_M_feelOf_48 rfl rfl ?_
      refine r_callVi (c_M_aOf hA hl _ hat) lk_M_121 (by first | with_reducible assumption | rfl) d_M_feelOf_49 rfl rfl (Nat.le_of_ble_eq_true rfl) (by decide) ?_
      refine r_isub d_M_feelOf_52 ?_
      refine r_callSi (c_M_kept _ _) lk_M_139 d_M_feelOf_53 rfl rfl (Nat.le_of_ble_eq_true rfl) (by decide) ?_
      refine r_goto d_M_feelOf_56 ?_
      refine r_iret .int d_M_feelOf_61 rfl rfl ?_
      refine ⟨?_, rfl⟩
      first
        | (have ek : kM (μ.1 83) A l = 3 := h13; rw [ek, ← feel_e1 hO.1 (hO.2 p hp) (Int32.not_le.mp h42)])
        | (have ek : kM (μ.1 83) A l = 3 := h13; rw [ek, ← feel_e2 (Int32.not_lt.mpr h42)])
        | (have ek : kM (μ.1 83) A l = 4 := h13; rw [ek, ← feel_e3 hO.1 (hO.2 p hp)])
        | (have z3 := h13 (3, 40) (by simp); have z4 := h13 (4, 62) (by simp); rw [← feel_e4 z3 z4])
  · refine r_iload 4 d_M_feelOf_62 rfl ?_
    refine r_aload_n 0 d_M_feelOf_64 rfl rfl ?_
    refine r_iload_n 1 d_M_feelOf_65 rfl rfl ?_
    refine r_callVi (c_M_aOf hA hl _ hat) lk_M_121 (by first | with_reducible assumption | rfl) d_M_feelOf_66 rfl rfl (Nat.le_of_ble_eq_true rfl) (by decide) ?_
    refine r_iadd d_M_feelOf_69 ?_
    refine r_callSi (c_M_kept _ _) lk_M_139 d_M_feelOf_70 rfl rfl (Nat.le_of_ble_eq_true rfl) (by decide) ?_
    refine r_iret .int d_M_feelOf_73 rfl rfl ?_
    refine ⟨?_, rfl⟩
    first
      | (have ek : kM (μ.1 83) A l = 3 := h13; rw [ek, ← feel_e1 hO.1 (hO.2 p hp) (Int32.not_le.mp h42)])
      | (have ek : kM (μ.1 83) A l = 3 := h13; rw [ek, ← feel_e2 (Int32.not_lt.mpr h42)])
      | (have ek : kM (μ.1 83) A l = 4 := h13; rw [ek, ← feel_e3 hO.1 (hO.2 p hp)])
      | (have z3 := h13 (3, 40) (by simp); have z4 := h13 (4, 62) (by simp); rw [← feel_e4 z3 z4])
  · refine r_iload 4 d_M_feelOf_74 rfl ?_
    refine r_iret .int d_M_feelOf_76 rfl rfl ?_
    refine ⟨?_, rfl⟩
    first
      | (have ek : kM (μ.1 83) A l = 3 := h13; rw [ek, ← feel_e1 hO.1 (hO.2 p hp) (Int32.not_le.mp h42)])
      | (have ek : kM (μ.1 83) A l = 3 := h13; rw [ek, ← feel_e2 (Int32.not_lt.mpr h42)])
      | (have ek : kM (μ.1 83) A l = 4 := h13; rw [ek, ← feel_e3 hO.1 (hO.2 p hp)])
      | (have z3 := h13 (3, 40) (by simp); have z4 := h13 (4, 62) (by simp); rw [← feel_e4 z3 z4])
set_option maxHeartbeats 400000 in
theorem c_M_takesBy (f : Int32) (μ : Me) : CtI m_M_takesBy 0 [.int f] μ (takesS f) μ := by
  refine Ct.of (ls := [.int f]) rfl (Nat.le_of_ble_eq_true rfl) rfl (fun X => ?_)
  refine r_iconst 1 d_M_takesBy_0 rfl ?_
  refine r_bipush (100) d_M_takesBy_1 (by decide) ?_
  refine r_iload_n 0 d_M_takesBy_3 rfl rfl ?_
  refine r_isub d_M_takesBy_4 ?_
  refine r_bipush (15) d_M_takesBy_5 (by decide) ?_
  refine r_idiv d_M_takesBy_7 (by first | decide | assumption) ?_
  refine r_iadd d_M_takesBy_8 ?_
  refine r_iret .int d_M_takesBy_9 rfl rfl ?_
  exact ⟨rfl, rfl⟩
set_option maxHeartbeats 400000 in
theorem c_M_isAtOnce {A l p : Nat} (hA : A ≤ 442) (hl : l < 4) (hp : p < 36) (t : Int32) (μ : Me) (hat : μ.1 82 1 = nI A) (hO : LO (μ.1 83) A l) : CtI m_M_isAtOnce 3 [.ref 82, .int (nI l), .int (nI p), .int t] μ (onceB (kM (μ.1 83) A l) (aM (μ.1 83) A l) (fM (μ.1 83) A l p) t (μ.1 84 1)) μ := by
  refine Ct.of (ls := [.ref 82, .int (nI l), .int (nI p), .int t, flr]) rfl (Nat.le_of_ble_eq_true rfl) rfl (fun X => ?_)
  refine r_aload_n 0 d_M_isAtOnce_0 rfl rfl ?_
  refine r_iload_n 1 d_M_isAtOnce_1 rfl rfl ?_
  refine r_iload_n 2 d_M_isAtOnce_2 rfl rfl ?_
  refine r_iload_n 3 d_M_isAtOnce_3 rfl rfl ?_
  refine r_callVi (c_M_feelOf hA hl hp _ _ hat hO) lk_M_145 (by first | with_reducible assumption | rfl) d_M_isAtOnce_4 rfl rfl (Nat.le_of_ble_eq_true rfl) (by decide) ?_
  refine r_istore 4 [_, _, _, _, _] d_M_isAtOnce_7 (by decide) rfl ?_
  refine r_iload 4 d_M_isAtOnce_9 rfl ?_
  refine r_aload_n 0 d_M_isAtOnce_11 rfl rfl ?_
  refine r_getR fl_M_13 (by first | with_reducible assumption | rfl) rfl d_M_isAtOnce_12 ?_
  refine r_iconst 1 d_M_isAtOnce_15 rfl ?_
  refine r_ialdN (j := 1) (by first | with_reducible assumption | rfl) (by first | with_reducible assumption | omega | decide | assumption) d_M_isAtOnce_16 ?_
  refine r_icmp_lt d_M_isAtOnce_17 (fun h17 => ?_) (fun h17 => ?_)
  · refine r_iconst 0 d_M_isAtOnce_33 rfl ?_
    refine r_iret .boolean d_M_isAtOnce_34 rfl (by first | decide | assumption) ?_
    refine ⟨?_, rfl⟩
    first
      | rw [onceB, if_pos h17]
      | rw [onceB, if_neg h17, if_pos h26]
      | rw [onceB, if_neg h17, if_neg h26]
  · refine r_iload 4 d_M_isAtOnce_20 rfl ?_
    refine r_callSi (c_M_takesBy _ _) lk_M_149 d_M_isAtOnce_22 rfl rfl (Nat.le_of_ble_eq_true rfl) (by decide) ?_
    refine r_iload_n 3 d_M_isAtOnce_25 rfl rfl ?_
    refine r_icmp_gt d_M_isAtOnce_26 (fun h26 => ?_) (fun h26 => ?_)
    · refine r_iconst 0 d_M_isAtOnce_33 rfl ?_
      refine r_iret .boolean d_M_isAtOnce_34 rfl (by first | decide | assumption) ?_
      refine ⟨?_, rfl⟩
      first
        | rw [onceB, if_pos h17]
        | rw [onceB, if_neg h17, if_pos h26]
        | rw [onceB, if_neg h17, if_neg h26]
    · refine r_iconst 1 d_M_isAtOnce_29 rfl ?_
      refine r_goto d_M_isAtOnce_30 ?_
      refine r_iret .boolean d_M_isAtOnce_34 rfl (by first | decide | assumption) ?_
      refine ⟨?_, rfl⟩
      first
        | rw [onceB, if_pos h17]
        | rw [onceB, if_neg h17, if_pos h26]
        | rw [onceB, if_neg h17, if_neg h26]
def s99 (k : Int32) : Int32 := if k = 2 ∨ k = 3 then 99 else stepS k
set_option maxHeartbeats 400000 in
theorem c_M_stepOf {A l : Nat} (hA : A ≤ 442) (hl : l < 4) (μ : Me) (hat : μ.1 82 1 = nI A) : CtI m_M_stepOf 1 [.ref 82, .int (nI l)] μ (s99 (kM (μ.1 83) A l)) μ := by
  refine Ct.of (ls := [.ref 82, .int (nI l)]) rfl (Nat.le_of_ble_eq_true rfl) rfl (fun X => ?_)
  refine r_aload_n 0 d_M_stepOf_0 rfl rfl ?_
  refine r_iload_n 1 d_M_stepOf_1 rfl rfl ?_
  refine r_callVi (c_M_kindOf hA hl _ hat) lk_M_118 (by first | with_reducible assumption | rfl) d_M_stepOf_2 rfl rfl (Nat.le_of_ble_eq_true rfl) (by decide) ?_
  refine r_ts d_M_stepOf_5 (List.forall_mem_cons.mpr ⟨fun h5 => ?_, List.forall_mem_cons.mpr ⟨fun h5 => ?_, List.forall_mem_cons.mpr ⟨fun h5 => ?_, List.forall_mem_cons.mpr ⟨fun h5 => ?_, fun _ h => absurd h List.not_mem_nil⟩⟩⟩⟩) (fun h5 => ?_)
  · refine r_iconst 1 d_M_stepOf_36 rfl ?_
    refine r_iret .int d_M_stepOf_37 rfl rfl ?_
    refine ⟨?_, rfl⟩
    first
      | (rw [h5]; rfl)
      | (have z1 := h5 (1, 36) (by simp); have z2 := h5 (2, 38) (by simp); have z3 := h5 (3, 38) (by simp); have z4 := h5 (4, 36) (by simp); rw [s99, if_neg (by simp_all), stepS, if_neg (by simp_all), if_neg (by simp_all)])
  · refine r_bipush (99) d_M_stepOf_38 (by decide) ?_
    refine r_iret .int d_M_stepOf_40 rfl rfl ?_
    refine ⟨?_, rfl⟩
    first
      | (rw [h5]; rfl)
      | (have z1 := h5 (1, 36) (by simp); have z2 := h5 (2, 38) (by simp); have z3 := h5 (3, 38) (by simp); have z4 := h5 (4, 36) (by simp); rw [s99, if_neg (by simp_all), stepS, if_neg (by simp_all), if_neg (by simp_all)])
  · refine r_bipush (99) d_M_stepOf_38 (by decide) ?_
    refine r_iret .int d_M_stepOf_40 rfl rfl ?_
    refine ⟨?_, rfl⟩
    first
      | (rw [h5]; rfl)
      | (have z1 := h5 (1, 36) (by simp); have z2 := h5 (2, 38) (by simp); have z3 := h5 (3, 38) (by simp); have z4 := h5 (4, 36) (by simp); rw [s99, if_neg (by simp_all), stepS, if_neg (by simp_all), if_neg (by simp_all)])
  · refine r_iconst 1 d_M_stepOf_36 rfl ?_
    refine r_iret .int d_M_stepOf_37 rfl rfl ?_
    refine ⟨?_, rfl⟩
    first
      | (rw [h5]; rfl)
      | (have z1 := h5 (1, 36) (by simp); have z2 := h5 (2, 38) (by simp); have z3 := h5 (3, 38) (by simp); have z4 := h5 (4, 36) (by simp); rw [s99, if_neg (by simp_all), stepS, if_neg (by simp_all), if_neg (by simp_all)])
  · refine r_iconst 2 d_M_stepOf_41 rfl ?_
    refine r_iret .int d_M_stepOf_42 rfl rfl ?_
    refine ⟨?_, rfl⟩
    first
      | (rw [h5]; rfl)
      | (have z1 := h5 (1, 36) (by simp); have z2 := h5 (2, 38) (by simp); have z3 := h5 (3, 38) (by simp); have z4 := h5 (4, 36) (by simp); rw [s99, if_neg (by simp_all), stepS, if_neg (by simp_all), if_neg (by simp_all)])
def w3 (x : Int32) : Int32 := if 0 ≤ x then x else -3
theorem s99_or (k : Int32) : (stepS k = -9 ∧ s99 k = 99) ∨ (¬ stepS k = -9 ∧ s99 k = stepS k) := by
  unfold s99 stepS
  by_cases h : k = 2 ∨ k = 3
  · rw [if_pos h, if_pos h]; exact Or.inl ⟨rfl, rfl⟩
  · rw [if_neg h, if_neg h]
    refine Or.inr ⟨?_, rfl⟩
    split <;> decide
theorem way_st {k a : Int32} {f : Nat → Int32} {p : Nat} {t g : Int32} (h : stepS k = -9 ∨ t - stepS k < 1) : w3 (wayS k a f p t g) = -3 := by
  rw [wayS, if_pos h]; decide
theorem way_0 {k a : Int32} {f : Nat → Int32} {p q : Nat} {t g : Int32} (h : ¬ (stepS k = -9 ∨ t - stepS k < 1)) (hq : q < 36) (e : nextS p 0 = nI q) (ho : ¬ onceB k a (f q) (t - stepS k) g = 0) : w3 (wayS k a f p t g) = nI q := by
  rw [wayS, if_neg h, e, cl36 hq (by decide), if_pos ⟨nI_pos' (by omega), ho⟩, w3, if_pos (nI_pos' (by omega))]
theorem way_2 {k a : Int32} {f : Nat → Int32} {p q : Nat} {t g : Int32} (h : ¬ (stepS k = -9 ∨ t - stepS k < 1)) (h0 : ¬ (0 ≤ nextS p 0 ∧ onceB k a (f (nextS p 0).toNatClampNeg) (t - stepS k) g ≠ 0)) (hq : q < 36) (e : nextS p 2 = nI q) (ho : ¬ onceB k a (f q) (t - stepS k) g = 0) : w3 (wayS k a f p t g) = nI q := by
  rw [wayS, if_neg h, if_neg h0, e, cl36 hq (by decide), if_pos ⟨nI_pos' (by omega), ho⟩, w3, if_pos (nI_pos' (by omega))]
theorem way_n {k a : Int32} {f : Nat → Int32} {p : Nat} {t g : Int32} (h : ¬ (stepS k = -9 ∨ t - stepS k < 1)) (h0 : ¬ (0 ≤ nextS p 0 ∧ onceB k a (f (nextS p 0).toNatClampNeg) (t - stepS k) g ≠ 0)) (h2 : ¬ (0 ≤ nextS p 2 ∧ onceB k a (f (nextS p 2).toNatClampNeg) (t - stepS k) g ≠ 0)) : w3 (wayS k a f p t g) = -3 := by
  rw [wayS, if_neg h, if_neg h0, if_neg h2]; decide
theorem nno {k a : Int32} {f : Nat → Int32} {x t g : Int32} (h : x < 0) : ¬ (0 ≤ x ∧ onceB k a (f x.toNatClampNeg) t g ≠ 0) := fun z => absurd h (Int32.not_lt.mpr z.1)
theorem nnb {k a : Int32} {f : Nat → Int32} {x t g : Int32} {q : Nat} (e : x = nI q) (hq : q < 36) (ho : onceB k a (f q) t g = 0) : ¬ (0 ≤ x ∧ onceB k a (f x.toNatClampNeg) t g ≠ 0) := fun z => z.2 (by rw [e, cl36 hq (by decide)]; exact ho)
set_option maxHeartbeats 400000 in
theorem c_M_wayFrom {A l p : Nat} (hA : A ≤ 442) (hl : l < 4) (hp : p < 36) (t : Int32) (ht : 1 ≤ t ∧ t ≤ 9) (μ : Me) (hat : μ.1 82 1 = nI A) (hO : LO (μ.1 83) A l) : CtI m_M_wayFrom 4 [.ref 82, .int (nI l), .int (nI p), .int t] μ (w3 (wayS (kM (μ.1 83) A l) (aM (μ.1 83) A l) (fM (μ.1 83) A l) p t (μ.1 84 1))) μ := by
  refine Ct.of (ls := [.ref 82, .int (nI l), .int (nI p), .int t, flr, flr, flr]) rfl (Nat.le_of_ble_eq_true rfl) rfl (fun X => ?_)
  rcases s99_or (kM (μ.1 83) A l) with ⟨e1, e2⟩ | ⟨e1, e2⟩
  · skip
    refine r_iload_n 3 d_M_wayFrom_0 rfl rfl ?_
    refine r_aload_n 0 d_M_wayFrom_1 rfl rfl ?_
    refine r_iload_n 1 d_M_wayFrom_2 rfl rfl ?_
    refine r_callVi (c_M_stepOf hA hl _ hat) lk_M_152 (by first | with_reducible assumption | rfl) d_M_wayFrom_3 rfl rfl (Nat.le_of_ble_eq_true rfl) (by decide) ?_
    rw [e2]
    refine r_isub d_M_wayFrom_6 ?_
    refine r_istore 4 [_, _, _, _, _, _, _] d_M_wayFrom_7 (by decide) rfl ?_
    refine r_iload 4 d_M_wayFrom_9 rfl ?_
    refine r_iconst 1 d_M_wayFrom_11 rfl ?_
    refine r_icmp_ge d_M_wayFrom_12 (fun h12 => absurd h12 (by grind)) (fun h12 => ?_)
    refine r_bipush (-3) d_M_wayFrom_15 (by decide) ?_
    refine r_iret .int d_M_wayFrom_17 rfl rfl ?_
    exact ⟨by rw [way_st (Or.inl e1)], rfl⟩
  · skip
    refine r_iload_n 3 d_M_wayFrom_0 rfl rfl ?_
    refine r_aload_n 0 d_M_wayFrom_1 rfl rfl ?_
    refine r_iload_n 1 d_M_wayFrom_2 rfl rfl ?_
    refine r_callVi (c_M_stepOf hA hl _ hat) lk_M_152 (by first | with_reducible assumption | rfl) d_M_wayFrom_3 rfl rfl (Nat.le_of_ble_eq_true rfl) (by decide) ?_
    rw [e2]
    refine r_isub d_M_wayFrom_6 ?_
    refine r_istore 4 [_, _, _, _, _, _, _] d_M_wayFrom_7 (by decide) rfl ?_
    refine r_iload 4 d_M_wayFrom_9 rfl ?_
    refine r_iconst 1 d_M_wayFrom_11 rfl ?_
    refine r_icmp_ge d_M_wayFrom_12 (fun h12 => ?_) (fun h12 => ?_)
    · have hst : ¬ (stepS (kM (μ.1 83) A l) = -9 ∨ t - stepS (kM (μ.1 83) A l) < 1) := fun z => z.elim e1 (fun y => absurd y (Int32.not_lt.mpr h12))
      refine r_iload_n 2 d_M_wayFrom_18 rfl rfl ?_
      refine r_callSi (c_M_lesser hp _) lk_M_76 d_M_wayFrom_19 rfl rfl (Nat.le_of_ble_eq_true rfl) (by decide) ?_
      refine r_iconst 1 d_M_wayFrom_22 rfl ?_
      refine r_isub d_M_wayFrom_23 ?_
      refine r_iload_n 2 d_M_wayFrom_24 rfl rfl ?_
      refine r_callSi (c_M_greater hp _) lk_M_80 d_M_wayFrom_25 rfl rfl (Nat.le_of_ble_eq_true rfl) (by decide) ?_
      refine r_callSi (c_M_pairBy _ _ _) lk_M_83 d_M_wayFrom_28 rfl rfl (Nat.le_of_ble_eq_true rfl) (by decide) ?_
      rw [← nx0]
      refine r_istore 5 [_, _, _, _, _, _, _] d_M_wayFrom_31 (by decide) rfl ?_
      refine r_iload 5 d_M_wayFrom_33 rfl ?_
      refine r_if_lt d_M_wayFrom_35 (fun h35 => ?_) (fun h35 => ?_)
      · refine r_iload_n 2 d_M_wayFrom_62 rfl rfl ?_
        refine r_callSi (c_M_lesser hp _) lk_M_76 d_M_wayFrom_63 rfl rfl (Nat.le_of_ble_eq_true rfl) (by decide) ?_
        refine r_iload_n 2 d_M_wayFrom_66 rfl rfl ?_
        refine r_callSi (c_M_greater hp _) lk_M_80 d_M_wayFrom_67 rfl rfl (Nat.le_of_ble_eq_true rfl) (by decide) ?_
        refine r_iconst 1 d_M_wayFrom_70 rfl ?_
        refine r_isub d_M_wayFrom_71 ?_
        refine r_callSi (c_M_pairBy _ _ _) lk_M_83 d_M_wayFrom_72 rfl rfl (Nat.le_of_ble_eq_true rfl) (by decide) ?_
        rw [← nx2]
        refine r_istore 6 [_, _, _, _, _, _, _] d_M_wayFrom_75 (by decide) rfl ?_
        refine r_iload 6 d_M_wayFrom_77 rfl ?_
        refine r_if_lt d_M_wayFrom_79 (fun h79 => ?_) (fun h79 => ?_)
        · refine r_bipush (-3) d_M_wayFrom_108 (by decide) ?_
          refine r_iret .int d_M_wayFrom_110 rfl rfl ?_
          refine ⟨?_, rfl⟩
          first
            | rw [way_st (Or.inr (Int32.not_le.mp h12))]
            | rw [way_0 hst hq0 eq0' h56]
            | rw [way_2 hst (nno h35) hq2 eq2' h100]
            | rw [way_2 hst (nnb eq0' hq0 h56) hq2 eq2' h100]
            | rw [way_n hst (nno h35) (nno h79)]
            | rw [way_n hst (nnb eq0' hq0 h56) (nno h79)]
            | rw [way_n hst (nno h35) (nnb eq2' hq2 h100)]
            | rw [way_n hst (nnb eq0' hq0 h56) (nnb eq2' hq2 h100)]
        · obtain ⟨q2, hq2, eq2⟩ := next_of hp 2 (by decide) rfl h79
          have eq2' : nextS p 2 = nI q2 := eq2
          rw [eq2']
          refine r_aload_n 0 d_M_wayFrom_82 rfl rfl ?_
          refine r_iload_n 1 d_M_wayFrom_83 rfl rfl ?_
          refine r_iload 6 d_M_wayFrom_84 rfl ?_
          refine r_if_ge d_M_wayFrom_86 (fun h86 => ?_) (fun h86 => absurd (nI_pos' (by omega)) h86)
          refine r_iload 6 d_M_wayFrom_93 rfl ?_
          refine r_iload 4 d_M_wayFrom_95 rfl ?_
          refine r_callVi (c_M_isAtOnce hA hl hq2 _ _ hat hO) lk_M_155 (by first | with_reducible assumption | rfl) d_M_wayFrom_97 rfl rfl (Nat.le_of_ble_eq_true rfl) (by decide) ?_
          refine r_if_eq d_M_wayFrom_100 (fun h100 => ?_) (fun h100 => ?_)
          · refine r_bipush (-3) d_M_wayFrom_108 (by decide) ?_
            refine r_iret .int d_M_wayFrom_110 rfl rfl ?_
            refine ⟨?_, rfl⟩
            first
              | rw [way_st (Or.inr (Int32.not_le.mp h12))]
              | rw [way_0 hst hq0 eq0' h56]
              | rw [way_2 hst (nno h35) hq2 eq2' h100]
              | rw [way_2 hst (nnb eq0' hq0 h56) hq2 eq2' h100]
              | rw [way_n hst (nno h35) (nno h79)]
              | rw [way_n hst (nnb eq0' hq0 h56) (nno h79)]
              | rw [way_n hst (nno h35) (nnb eq2' hq2 h100)]
              | rw [way_n hst (nnb eq0' hq0 h56) (nnb eq2' hq2 h100)]
          · refine r_iload 6 d_M_wayFrom_103 rfl ?_
            refine r_goto d_M_wayFrom_105 ?_
            refine r_iret .int d_M_wayFrom_110 rfl rfl ?_
            refine ⟨?_, rfl⟩
            first
              | rw [way_st (Or.inr (Int32.not_le.mp h12))]
              | rw [way_0 hst hq0 eq0' h56]
              | rw [way_2 hst (nno h35) hq2 eq2' h100]
              | rw [way_2 hst (nnb eq0' hq0 h56) hq2 eq2' h100]
              | rw [way_n hst (nno h35) (nno h79)]
              | rw [way_n hst (nnb eq0' hq0 h56) (nno h79)]
              | rw [way_n hst (nno h35) (nnb eq2' hq2 h100)]
              | rw [way_n hst (nnb eq0' hq0 h56) (nnb eq2' hq2 h100)]
      · obtain ⟨q0, hq0, eq0⟩ := next_of hp 0 (by decide) rfl h35
        have eq0' : nextS p 0 = nI q0 := eq0
        rw [eq0']
        refine r_aload_n 0 d_M_wayFrom_38 rfl rfl ?_
        refine r_iload_n 1 d_M_wayFrom_39 rfl rfl ?_
        refine r_iload 5 d_M_wayFrom_40 rfl ?_
        refine r_if_ge d_M_wayFrom_42 (fun h42 => ?_) (fun h42 => absurd (nI_pos' (by omega)) h42)
        refine r_iload 5 d_M_wayFrom_49 rfl ?_
        refine r_iload 4 d_M_wayFrom_51 rfl ?_
        refine r_callVi (c_M_isAtOnce hA hl hq0 _ _ hat hO) lk_M_155 (by first | with_reducible assumption | rfl) d_M_wayFrom_53 rfl rfl (Nat.le_of_ble_eq_true rfl) (by decide) ?_
        refine r_if_eq d_M_wayFrom_56 (fun h56 => ?_) (fun h56 => ?_)
        · refine r_iload_n 2 d_M_wayFrom_62 rfl rfl ?_
          refine r_callSi (c_M_lesser hp _) lk_M_76 d_M_wayFrom_63 rfl rfl (Nat.le_of_ble_eq_true rfl) (by decide) ?_
          refine r_iload_n 2 d_M_wayFrom_66 rfl rfl ?_
          refine r_callSi (c_M_greater hp _) lk_M_80 d_M_wayFrom_67 rfl rfl (Nat.le_of_ble_eq_true rfl) (by decide) ?_
          refine r_iconst 1 d_M_wayFrom_70 rfl ?_
          refine r_isub d_M_wayFrom_71 ?_
          refine r_callSi (c_M_pairBy _ _ _) lk_M_83 d_M_wayFrom_72 rfl rfl (Nat.le_of_ble_eq_true rfl) (by decide) ?_
          rw [← nx2]
          refine r_istore 6 [_, _, _, _, _, _, _] d_M_wayFrom_75 (by decide) rfl ?_
          refine r_iload 6 d_M_wayFrom_77 rfl ?_
          refine r_if_lt d_M_wayFrom_79 (fun h79 => ?_) (fun h79 => ?_)
          · refine r_bipush (-3) d_M_wayFrom_108 (by decide) ?_
            refine r_iret .int d_M_wayFrom_110 rfl rfl ?_
            refine ⟨?_, rfl⟩
            first
              | rw [way_st (Or.inr (Int32.not_le.mp h12))]
              | rw [way_0 hst hq0 eq0' h56]
              | rw [way_2 hst (nno h35) hq2 eq2' h100]
              | rw [way_2 hst (nnb eq0' hq0 h56) hq2 eq2' h100]
              | rw [way_n hst (nno h35) (nno h79)]
              | rw [way_n hst (nnb eq0' hq0 h56) (nno h79)]
              | rw [way_n hst (nno h35) (nnb eq2' hq2 h100)]
              | rw [way_n hst (nnb eq0' hq0 h56) (nnb eq2' hq2 h100)]
          · obtain ⟨q2, hq2, eq2⟩ := next_of hp 2 (by decide) rfl h79
            have eq2' : nextS p 2 = nI q2 := eq2
            rw [eq2']
            refine r_aload_n 0 d_M_wayFrom_82 rfl rfl ?_
            refine r_iload_n 1 d_M_wayFrom_83 rfl rfl ?_
            refine r_iload 6 d_M_wayFrom_84 rfl ?_
            refine r_if_ge d_M_wayFrom_86 (fun h86 => ?_) (fun h86 => absurd (nI_pos' (by omega)) h86)
            refine r_iload 6 d_M_wayFrom_93 rfl ?_
            refine r_iload 4 d_M_wayFrom_95 rfl ?_
            refine r_callVi (c_M_isAtOnce hA hl hq2 _ _ hat hO) lk_M_155 (by first | with_reducible assumption | rfl) d_M_wayFrom_97 rfl rfl (Nat.le_of_ble_eq_true rfl) (by decide) ?_
            refine r_if_eq d_M_wayFrom_100 (fun h100 => ?_) (fun h100 => ?_)
            · refine r_bipush (-3) d_M_wayFrom_108 (by decide) ?_
              refine r_iret .int d_M_wayFrom_110 rfl rfl ?_
              refine ⟨?_, rfl⟩
              first
                | rw [way_st (Or.inr (Int32.not_le.mp h12))]
                | rw [way_0 hst hq0 eq0' h56]
                | rw [way_2 hst (nno h35) hq2 eq2' h100]
                | rw [way_2 hst (nnb eq0' hq0 h56) hq2 eq2' h100]
                | rw [way_n hst (nno h35) (nno h79)]
                | rw [way_n hst (nnb eq0' hq0 h56) (nno h79)]
                | rw [way_n hst (nno h35) (nnb eq2' hq2 h100)]
                | rw [way_n hst (nnb eq0' hq0 h56) (nnb eq2' hq2 h100)]
            · refine r_iload 6 d_M_wayFrom_103 rfl ?_
              refine r_goto d_M_wayFrom_105 ?_
              refine r_iret .int d_M_wayFrom_110 rfl rfl ?_
              refine ⟨?_, rfl⟩
              first
                | rw [way_st (Or.inr (Int32.not_le.mp h12))]
                | rw [way_0 hst hq0 eq0' h56]
                | rw [way_2 hst (nno h35) hq2 eq2' h100]
                | rw [way_2 hst (nnb eq0' hq0 h56) hq2 eq2' h100]
                | rw [way_n hst (nno h35) (nno h79)]
                | rw [way_n hst (nnb eq0' hq0 h56) (nno h79)]
                | rw [way_n hst (nno h35) (nnb eq2' hq2 h100)]
                | rw [way_n hst (nnb eq0' hq0 h56) (nnb eq2' hq2 h100)]
        · refine r_iload 5 d_M_wayFrom_59 rfl ?_
          refine r_iret .int d_M_wayFrom_61 rfl rfl ?_
          refine ⟨?_, rfl⟩
          first
            | rw [way_st (Or.inr (Int32.not_le.mp h12))]
            | rw [way_0 hst hq0 eq0' h56]
            | rw [way_2 hst (nno h35) hq2 eq2' h100]
            | rw [way_2 hst (nnb eq0' hq0 h56) hq2 eq2' h100]
            | rw [way_n hst (nno h35) (nno h79)]
            | rw [way_n hst (nnb eq0' hq0 h56) (nno h79)]
            | rw [way_n hst (nno h35) (nnb eq2' hq2 h100)]
            | rw [way_n hst (nnb eq0' hq0 h56) (nnb eq2' hq2 h100)]
    · refine r_bipush (-3) d_M_wayFrom_15 (by decide) ?_
      refine r_iret .int d_M_wayFrom_17 rfl rfl ?_
      refine ⟨?_, rfl⟩
      first
        | rw [way_st (Or.inr (Int32.not_le.mp h12))]
        | rw [way_0 hst hq0 eq0' h56]
        | rw [way_2 hst (nno h35) hq2 eq2' h100]
        | rw [way_2 hst (nnb eq0' hq0 h56) hq2 eq2' h100]
        | rw [way_n hst (nno h35) (nno h79)]
        | rw [way_n hst (nnb eq0' hq0 h56) (nno h79)]
        | rw [way_n hst (nno h35) (nnb eq2' hq2 h100)]
        | rw [way_n hst (nnb eq0' hq0 h56) (nnb eq2' hq2 h100)]
/-- the pairs next door, by the bits -/
def tieB (p q : Nat) : Bool := decide (lg_cmp ((tiedF p 4 >>> ((nI q).toInt64 &&& 63)) &&& 1) 1 = 0)
theorem tie_ok : ∀ p : Fin 36, ∀ q : Fin 36, tieB p.val q.val = true ↔ ∃ s : Fin 4, nextS p.val (nI s.val) = nI q.val := by decide +kernel
theorem tie_ex : ∀ p : Fin 36, ∃ s : Fin 4, ¬ nextS p.val (nI s.val) < 0 := by decide +kernel
def bestOf (F : Nat → Int32) (S : Nat → Prop) (b : Nat) : Prop := S b ∧ ∀ q, S q → F q < F b ∨ (F q = F b ∧ b ≤ q)
theorem bestOf.uniq {F : Nat → Int32} {S : Nat → Prop} {b b' : Nat} (h : bestOf F S b) (h' : bestOf F S b') : b = b' := by
  have h1 := h.2 b' h'.1
  have h2 := h'.2 b h.1
  rcases h1 with h1 | h1
  · rcases h2 with h2 | h2
    · exact absurd h1 (Int32.not_lt.mpr (Int32.le_of_lt h2))
    · rw [h2.1] at h1; exact absurd h1 (Int32.lt_irrefl)
  · rcases h2 with h2 | h2
    · rw [h1.1] at h2; exact absurd h2 (Int32.lt_irrefl)
    · omega
def nb (p i q : Nat) : Prop := q < 36 ∧ ∃ s, s < i ∧ nextS p (nI s) = nI q
theorem ft_inv {k a : Int32} {f : Nat → Int32} {p : Nat} {t : Int32} (hp : p < 36) (hF : ∀ q, q < 36 → 0 ≤ feelS k a (f q) t) : ∀ i, i ≤ 4 → (ftS k a f p t i = (-9, -1) ∧ ∀ s, s < i → nextS p (nI s) < 0) ∨ ∃ b, ftS k a f p t i = (nI b, feelS k a (f b) t) ∧ bestOf (fun q => feelS k a (f q) t) (nb p i) b
  | 0, _ => Or.inl ⟨rfl, fun s hs => absurd hs (Nat.not_lt_zero _)⟩
  | i + 1, hi => by
    have ih := ft_inv hp hF i (by omega)
    by_cases hn : nextS p (nI i) < 0
    · rw [ftS, if_pos hn]
      have ext : ∀ q, nb p (i + 1) q → nb p i q := fun q ⟨h1, s, h2, h3⟩ => by
        rcases Nat.lt_or_ge s i with z | z
        · exact ⟨h1, s, z, h3⟩
        · rw [show s = i by omega] at h3; rw [h3] at hn; exact absurd hn (nI_pos (by omega))
      rcases ih with ⟨e, h⟩ | ⟨b, e, h⟩
      · refine Or.inl ⟨e, fun s hs => ?_⟩
        rcases Nat.lt_or_ge s i with z | z
        · exact h s z
        · rw [show s = i by omega]; exact hn
      · refine Or.inr ⟨b, e, ⟨h.1.1, ?_⟩, fun q hq => h.2 q (ext q hq)⟩
        obtain ⟨s, h1, h2⟩ := h.1.2
        exact ⟨s, by omega, h2⟩
    · obtain ⟨q, hq, eq⟩ := next_of hp i (by omega) rfl hn
      have me : nb p (i + 1) q := ⟨hq, i, by omega, eq⟩
      have split : ∀ x, nb p (i + 1) x → x = q ∨ nb p i x := fun x ⟨h1, s, h2, h3⟩ => by
        rcases Nat.lt_or_ge s i with z | z
        · exact Or.inr ⟨h1, s, z, h3⟩
        · rw [show s = i by omega, eq] at h3
          exact Or.inl ((nI_eq (by omega) (by omega)).mp h3).symm
      rw [ftS, if_neg hn, eq, cl36 hq (by decide)]
      rcases ih with ⟨e, h⟩ | ⟨b, e, h⟩
      · have hz := hF q hq
        rw [e, if_pos (Or.inl (show (-1 : Int32) < feelS k a (f q) t by grind))]
        refine Or.inr ⟨q, rfl, me, fun x hx => ?_⟩
        rcases split x hx with z | ⟨z1, s, z2, z3⟩
        · exact Or.inr ⟨by rw [z], by omega⟩
        · have := h s z2; rw [z3] at this; exact absurd this (nI_pos (by omega))
      · rw [e]
        have hb := h.1.1
        by_cases hc : feelS k a (f b) t < feelS k a (f q) t ∨ feelS k a (f q) t = feelS k a (f b) t ∧ nI q < nI b
        · rw [if_pos hc]
          refine Or.inr ⟨q, rfl, me, fun x hx => ?_⟩
          rcases split x hx with z | z
          · exact Or.inr ⟨by rw [z], by omega⟩
          · have h1 := h.2 x z
            show feelS k a (f x) t < feelS k a (f q) t ∨ feelS k a (f x) t = feelS k a (f q) t ∧ q ≤ x
            rcases hc with hc | ⟨hc1, hc2⟩
            · left; grind
            · have := (nI_ltI (by omega) (by omega)).mp hc2
              rcases h1 with h1 | ⟨h1, h2⟩
              · left; rw [hc1]; exact h1
              · right; exact ⟨by rw [hc1]; exact h1, by omega⟩
        · rw [if_neg hc]
          refine Or.inr ⟨b, rfl, ⟨hb, ?_⟩, fun x hx => ?_⟩
          · obtain ⟨s, z1, z2⟩ := h.1.2
            exact ⟨s, by omega, z2⟩
          · rcases split x hx with z | z
            · subst z
              have h1 : ¬ feelS k a (f b) t < feelS k a (f x) t := fun z => hc (Or.inl z)
              by_cases h2 : feelS k a (f x) t = feelS k a (f b) t
              · refine Or.inr ⟨h2, ?_⟩
                have := mt (fun z => hc (Or.inr ⟨h2, z⟩)) (fun z => z)
                exact Nat.not_lt.mp (fun z => hc (Or.inr ⟨h2, nI_lt z (by omega)⟩))
              · left
                show feelS k a (f x) t < feelS k a (f b) t
                grind
            · exact h.2 x z
theorem ft_ok {k a : Int32} {f : Nat → Int32} {p : Nat} {t : Int32} (hp : p < 36) (hF : ∀ q, q < 36 → 0 ≤ feelS k a (f q) t) : ∃ b, b < 36 ∧ (ftS k a f p t 4).1 = nI b ∧ bestOf (fun q => feelS k a (f q) t) (fun q => q < 36 ∧ tieB p q = true) b := by
  rcases ft_inv (k := k) (a := a) (f := f) (p := p) (t := t) hp hF 4 (Nat.le_refl _) with ⟨e, h⟩ | ⟨b, e, h⟩
  · obtain ⟨s, hs⟩ := tie_ex ⟨p, hp⟩
    exact absurd (h s.val s.isLt) hs
  · have conv : ∀ q, (q < 36 ∧ tieB p q = true) ↔ nb p 4 q := fun q => by
      constructor
      · rintro ⟨h1, h2⟩
        obtain ⟨s, hs⟩ := (tie_ok ⟨p, hp⟩ ⟨q, h1⟩).mp h2
        exact ⟨h1, s.val, s.isLt, hs⟩
      · rintro ⟨h1, s, h2, h3⟩
        exact ⟨h1, (tie_ok ⟨p, hp⟩ ⟨q, h1⟩).mpr ⟨⟨s, h2⟩, h3⟩⟩
    exact ⟨b, h.1.1, by rw [e], (conv b).mpr h.1, fun q hq => h.2 q ((conv q).mp hq)⟩
