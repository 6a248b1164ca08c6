/-! ROWS, the plan, a School copied -/
def isRw (c : Nat) : Prop := shp[c]? = some (.inl (5, [c + 3, 0])) ∧ shp[c + 1]? = some (.inr (0, 36, 0, 0))
theorem isRw_62 : isRw 62 := ⟨rfl, rfl⟩
theorem isRw_64 : isRw 64 := ⟨rfl, rfl⟩
theorem mul3 (m : Nat) : (3 : Int32) * nI m = nI (3 * m) := pk_mul 3 m
theorem add2 (m : Nat) : nI m + 2 = nI (m + 2) := nI_add m 2
set_option maxHeartbeats 400000 in
theorem c_Rows_append {c m : Nat} (hc : isRw c) (hm : m ≤ 12) (a b e : Int32) (μ : Me) (hct : μ.1 c 1 = nI m) : CtV m_Rows_append 0 [.ref c, .int a, .int b, .int e] μ (if m < 12 then uI (uI (uI (uI μ (c + 1) (3 * m) a) (c + 1) (3 * m + 1) b) (c + 1) (3 * m + 2) e) c 1 (nI (m + 1)) else μ) := by
  refine Ct.of (ls := [.ref c, .int a, .int b, .int e]) rfl (Nat.le_of_ble_eq_true rfl) rfl (fun X => ?_)
  obtain ⟨s0, s1⟩ := hc
  refine r_aload_n 0 d_Rows_append_0 rfl rfl ?_
  refine r_getI fl_Rows_15 (by first | with_reducible assumption | rfl) rfl d_Rows_append_1 ?_
  refine r_bipush (12) d_Rows_append_4 (by decide) ?_
  refine r_icmp_lt d_Rows_append_6 (fun h6 => ?_) (fun h6 => ?_)
  · have hl : m < 12 := (nI_ltI (by omega) (by decide)).mp (by rw [← hct]; exact h6)
    have e1 : ∀ (j : Nat) (v : Int32), (uI μ (c + 1) j v).1 c 1 = nI m := fun j v => by rw [uI_ne (by omega), hct]
    have e2 : ∀ (j k : Nat) (v w : Int32), (uI (uI μ (c + 1) j v) (c + 1) k w).1 c 1 = nI m := fun j k v w => by rw [uI_ne (by omega), e1]
    have e3 : ∀ (j k i : Nat) (v w u : Int32), (uI (uI (uI μ (c + 1) j v) (c + 1) k w) (c + 1) i u).1 c 1 = nI m := fun j k i v w u => by rw [uI_ne (by omega), e2]
    refine r_aload_n 0 d_Rows_append_10 rfl rfl ?_
    refine r_getR fl_Rows_9 (by first | with_reducible assumption | rfl) rfl d_Rows_append_11 ?_
    refine r_iconst 3 d_Rows_append_14 rfl ?_
    refine r_aload_n 0 d_Rows_append_15 rfl rfl ?_
    refine r_getI fl_Rows_15 (by first | with_reducible assumption | rfl) rfl d_Rows_append_16 ?_
    refine r_imul d_Rows_append_19 ?_
    rw [hct, mul3]
    refine r_iload_n 1 d_Rows_append_20 rfl rfl ?_
    refine r_iastN (by first | with_reducible assumption | rfl) (by first | with_reducible assumption | omega | decide | assumption) d_Rows_append_21 ?_
    refine r_aload_n 0 d_Rows_append_22 rfl rfl ?_
    refine r_getR fl_Rows_9 (by first | with_reducible assumption | rfl) rfl d_Rows_append_23 ?_
    refine r_iconst 3 d_Rows_append_26 rfl ?_
    refine r_aload_n 0 d_Rows_append_27 rfl rfl ?_
    refine r_getI fl_Rows_15 (by first | with_reducible assumption | rfl) rfl d_Rows_append_28 ?_
    refine r_imul d_Rows_append_31 ?_
    refine r_iconst 1 d_Rows_append_32 rfl ?_
    refine r_iadd d_Rows_append_33 ?_
    rw [e1, mul3, nI_1]
    refine r_iload_n 2 d_Rows_append_34 rfl rfl ?_
    refine r_iastN (by first | with_reducible assumption | rfl) (by first | with_reducible assumption | omega | decide | assumption) d_Rows_append_35 ?_
    refine r_aload_n 0 d_Rows_append_36 rfl rfl ?_
    refine r_getR fl_Rows_9 (by first | with_reducible assumption | rfl) rfl d_Rows_append_37 ?_
    refine r_iconst 3 d_Rows_append_40 rfl ?_
    refine r_aload_n 0 d_Rows_append_41 rfl rfl ?_
    refine r_getI fl_Rows_15 (by first | with_reducible assumption | rfl) rfl d_Rows_append_42 ?_
    refine r_imul d_Rows_append_45 ?_
    refine r_iconst 2 d_Rows_append_46 rfl ?_
    refine r_iadd d_Rows_append_47 ?_
    rw [e2, mul3, add2]
    refine r_iload_n 3 d_Rows_append_48 rfl rfl ?_
    refine r_iastN (by first | with_reducible assumption | rfl) (by first | with_reducible assumption | omega | decide | assumption) d_Rows_append_49 ?_
    refine r_aload_n 0 d_Rows_append_50 rfl rfl ?_
    refine r_dup d_Rows_append_51 rfl ?_
    refine r_getI fl_Rows_15 (by first | with_reducible assumption | rfl) rfl d_Rows_append_52 ?_
    rw [e3]
    refine r_iconst 1 d_Rows_append_55 rfl ?_
    refine r_iadd d_Rows_append_56 ?_
    refine r_putI fp_Rows_15 (by first | with_reducible assumption | rfl) rfl d_Rows_append_57 ?_
    refine r_ret d_Rows_append_60 rfl ?_
    rw [if_pos hl, nI_succ]
    exact ⟨rfl, rfl⟩
  · refine r_ret d_Rows_append_9 rfl ?_
    have hl : ¬ m < 12 := fun z => h6 (by rw [hct]; exact nI_lt z (by decide))
    exact ⟨rfl, (if_neg hl).symm⟩
def plcS (n i w : Int32) : Int32 := if 0 ≤ i ∧ i < n ∧ 0 ≤ w ∧ w ≤ 2 then 3 * i + w else -9
set_option maxHeartbeats 400000 in
theorem c_Rows_placeOf {c : Nat} (hc : isRw c) (i w : Int32) (μ : Me) : CtI m_Rows_placeOf 1 [.ref c, .int i, .int w] μ (plcS (μ.1 c 1) i w) μ := by
  refine Ct.of (ls := [.ref c, .int i, .int w]) rfl (Nat.le_of_ble_eq_true rfl) rfl (fun X => ?_)
  obtain ⟨s0, s1⟩ := hc
  refine r_iload_n 1 d_Rows_placeOf_0 rfl rfl ?_
  refine r_if_lt d_Rows_placeOf_1 (fun h1 => ?_) (fun h1 => ?_)
  · refine r_bipush (-9) d_Rows_placeOf_20 (by decide) ?_
    refine r_goto d_Rows_placeOf_22 ?_
    refine r_iret .int d_Rows_placeOf_30 rfl rfl ?_
    refine ⟨?_, rfl⟩
    (try have h17 := bz_p h17)
    (try have h17 := bz_np h17)
    clear s0 s1 X
    grind [plcS]
  · refine r_iload_n 1 d_Rows_placeOf_4 rfl rfl ?_
    refine r_aload_n 0 d_Rows_placeOf_5 rfl rfl ?_
    refine r_getI fl_Rows_15 (by first | with_reducible assumption | rfl) rfl d_Rows_placeOf_6 ?_
    refine r_icmp_ge d_Rows_placeOf_9 (fun h9 => ?_) (fun h9 => ?_)
    · refine r_bipush (-9) d_Rows_placeOf_20 (by decide) ?_
      refine r_goto d_Rows_placeOf_22 ?_
      refine r_iret .int d_Rows_placeOf_30 rfl rfl ?_
      refine ⟨?_, rfl⟩
      (try have h17 := bz_p h17)
      (try have h17 := bz_np h17)
      clear s0 s1 X
      grind [plcS]
    · refine r_iload_n 2 d_Rows_placeOf_12 rfl rfl ?_
      refine r_iconst 2 d_Rows_placeOf_13 rfl ?_
      refine r_callSNi (c_S_isWithin _ _ _) lk_Rows_19 d_Rows_placeOf_14 rfl rfl (Nat.le_of_ble_eq_true rfl) (by decide) ?_
      refine r_if_ne d_Rows_placeOf_17 (fun h17 => ?_) (fun h17 => ?_)
      · refine r_iconst 3 d_Rows_placeOf_25 rfl ?_
        refine r_iload_n 1 d_Rows_placeOf_26 rfl rfl ?_
        refine r_imul d_Rows_placeOf_27 ?_
        refine r_iload_n 2 d_Rows_placeOf_28 rfl rfl ?_
        refine r_iadd d_Rows_placeOf_29 ?_
        refine r_iret .int d_Rows_placeOf_30 rfl rfl ?_
        refine ⟨?_, rfl⟩
        (try have h17 := bz_p h17)
        (try have h17 := bz_np h17)
        clear s0 s1 X
        grind [plcS]
      · refine r_bipush (-9) d_Rows_placeOf_20 (by decide) ?_
        refine r_goto d_Rows_placeOf_22 ?_
        refine r_iret .int d_Rows_placeOf_30 rfl rfl ?_
        refine ⟨?_, rfl⟩
        (try have h17 := bz_p h17)
        (try have h17 := bz_np h17)
        clear s0 s1 X
        grind [plcS]
set_option maxHeartbeats 400000 in
theorem c_Plan_offer (p b : Int32) (μ : Me) : CtV m_Plan_offer 0 [.ref 58, .int p, .int b] μ (if μ.1 58 3 < b then uI (uI μ 58 3 b) 58 4 p else μ) := by
  refine Ct.of (ls := [.ref 58, .int p, .int b]) rfl (Nat.le_of_ble_eq_true rfl) rfl (fun X => ?_)
  refine r_iload_n 2 d_Plan_offer_0 rfl rfl ?_
  refine r_aload_n 0 d_Plan_offer_1 rfl rfl ?_
  refine r_getI fl_Plan_22 (by first | with_reducible assumption | rfl) rfl d_Plan_offer_2 ?_
  refine r_icmp_le d_Plan_offer_5 (fun h5 => ?_) (fun h5 => ?_)
  · refine r_ret d_Plan_offer_18 rfl ?_
    refine ⟨rfl, ?_⟩
    first
      | exact (if_neg (Int32.not_lt.mpr h5)).symm
      | exact (if_pos (Int32.not_le.mp h5)).symm
  · refine r_aload_n 0 d_Plan_offer_8 rfl rfl ?_
    refine r_iload_n 2 d_Plan_offer_9 rfl rfl ?_
    refine r_putI fp_Plan_22 (by first | with_reducible assumption | rfl) rfl d_Plan_offer_10 ?_
    refine r_aload_n 0 d_Plan_offer_13 rfl rfl ?_
    refine r_iload_n 1 d_Plan_offer_14 rfl rfl ?_
    refine r_putI fp_Plan_25 (by first | with_reducible assumption | rfl) rfl d_Plan_offer_15 ?_
    refine r_ret d_Plan_offer_18 rfl ?_
    refine ⟨rfl, ?_⟩
    first
      | exact (if_neg (Int32.not_lt.mpr h5)).symm
      | exact (if_pos (Int32.not_le.mp h5)).symm
