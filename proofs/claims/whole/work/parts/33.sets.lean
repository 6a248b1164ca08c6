/-! Long.bitCount, and sets of PAIRS -/
set_option maxRecDepth 100000 in
theorem d_JLong_bitCount_0 : Dc m_JLong_bitCount 0 (.lload_n 0) 1 1 := ⟨by decide +kernel, rfl⟩
set_option maxRecDepth 100000 in
theorem d_JLong_bitCount_1 : Dc m_JLong_bitCount 1 (.lload_n 0) 1 2 := ⟨by decide +kernel, rfl⟩
set_option maxRecDepth 100000 in
theorem d_JLong_bitCount_2 : Dc m_JLong_bitCount 2 (.iconst 1) 1 3 := ⟨by decide +kernel, rfl⟩
set_option maxRecDepth 100000 in
theorem d_JLong_bitCount_3 : Dc m_JLong_bitCount 3 .lushr 1 4 := ⟨by decide +kernel, rfl⟩
set_option maxRecDepth 100000 in
theorem d_JLong_bitCount_4 : Dc m_JLong_bitCount 4 (.ldc2_w 314) 3 7 := ⟨by decide +kernel, rfl⟩
set_option maxRecDepth 100000 in
theorem d_JLong_bitCount_7 : Dc m_JLong_bitCount 7 .land 1 8 := ⟨by decide +kernel, rfl⟩
set_option maxRecDepth 100000 in
theorem d_JLong_bitCount_8 : Dc m_JLong_bitCount 8 .lsub 1 9 := ⟨by decide +kernel, rfl⟩
set_option maxRecDepth 100000 in
theorem d_JLong_bitCount_9 : Dc m_JLong_bitCount 9 (.lstore_n 0) 1 10 := ⟨by decide +kernel, rfl⟩
set_option maxRecDepth 100000 in
theorem d_JLong_bitCount_10 : Dc m_JLong_bitCount 10 (.lload_n 0) 1 11 := ⟨by decide +kernel, rfl⟩
set_option maxRecDepth 100000 in
theorem d_JLong_bitCount_11 : Dc m_JLong_bitCount 11 (.ldc2_w 316) 3 14 := ⟨by decide +kernel, rfl⟩
set_option maxRecDepth 100000 in
theorem d_JLong_bitCount_14 : Dc m_JLong_bitCount 14 .land 1 15 := ⟨by decide +kernel, rfl⟩
set_option maxRecDepth 100000 in
theorem d_JLong_bitCount_15 : Dc m_JLong_bitCount 15 (.lload_n 0) 1 16 := ⟨by decide +kernel, rfl⟩
set_option maxRecDepth 100000 in
theorem d_JLong_bitCount_16 : Dc m_JLong_bitCount 16 (.iconst 2) 1 17 := ⟨by decide +kernel, rfl⟩
set_option maxRecDepth 100000 in
theorem d_JLong_bitCount_17 : Dc m_JLong_bitCount 17 .lushr 1 18 := ⟨by decide +kernel, rfl⟩
set_option maxRecDepth 100000 in
theorem d_JLong_bitCount_18 : Dc m_JLong_bitCount 18 (.ldc2_w 316) 3 21 := ⟨by decide +kernel, rfl⟩
set_option maxRecDepth 100000 in
theorem d_JLong_bitCount_21 : Dc m_JLong_bitCount 21 .land 1 22 := ⟨by decide +kernel, rfl⟩
set_option maxRecDepth 100000 in
theorem d_JLong_bitCount_22 : Dc m_JLong_bitCount 22 .ladd 1 23 := ⟨by decide +kernel, rfl⟩
set_option maxRecDepth 100000 in
theorem d_JLong_bitCount_23 : Dc m_JLong_bitCount 23 (.lstore_n 0) 1 24 := ⟨by decide +kernel, rfl⟩
set_option maxRecDepth 100000 in
theorem d_JLong_bitCount_24 : Dc m_JLong_bitCount 24 (.lload_n 0) 1 25 := ⟨by decide +kernel, rfl⟩
set_option maxRecDepth 100000 in
theorem d_JLong_bitCount_25 : Dc m_JLong_bitCount 25 (.lload_n 0) 1 26 := ⟨by decide +kernel, rfl⟩
set_option maxRecDepth 100000 in
theorem d_JLong_bitCount_26 : Dc m_JLong_bitCount 26 (.iconst 4) 1 27 := ⟨by decide +kernel, rfl⟩
set_option maxRecDepth 100000 in
theorem d_JLong_bitCount_27 : Dc m_JLong_bitCount 27 .lushr 1 28 := ⟨by decide +kernel, rfl⟩
set_option maxRecDepth 100000 in
theorem d_JLong_bitCount_28 : Dc m_JLong_bitCount 28 .ladd 1 29 := ⟨by decide +kernel, rfl⟩
set_option maxRecDepth 100000 in
theorem d_JLong_bitCount_29 : Dc m_JLong_bitCount 29 (.ldc2_w 318) 3 32 := ⟨by decide +kernel, rfl⟩
set_option maxRecDepth 100000 in
theorem d_JLong_bitCount_32 : Dc m_JLong_bitCount 32 .land 1 33 := ⟨by decide +kernel, rfl⟩
set_option maxRecDepth 100000 in
theorem d_JLong_bitCount_33 : Dc m_JLong_bitCount 33 (.lstore_n 0) 1 34 := ⟨by decide +kernel, rfl⟩
set_option maxRecDepth 100000 in
theorem d_JLong_bitCount_34 : Dc m_JLong_bitCount 34 (.lload_n 0) 1 35 := ⟨by decide +kernel, rfl⟩
set_option maxRecDepth 100000 in
theorem d_JLong_bitCount_35 : Dc m_JLong_bitCount 35 (.lload_n 0) 1 36 := ⟨by decide +kernel, rfl⟩
set_option maxRecDepth 100000 in
theorem d_JLong_bitCount_36 : Dc m_JLong_bitCount 36 (.bipush (8)) 2 38 := ⟨by decide +kernel, rfl⟩
set_option maxRecDepth 100000 in
theorem d_JLong_bitCount_38 : Dc m_JLong_bitCount 38 .lushr 1 39 := ⟨by decide +kernel, rfl⟩
set_option maxRecDepth 100000 in
theorem d_JLong_bitCount_39 : Dc m_JLong_bitCount 39 .ladd 1 40 := ⟨by decide +kernel, rfl⟩
set_option maxRecDepth 100000 in
theorem d_JLong_bitCount_40 : Dc m_JLong_bitCount 40 (.lstore_n 0) 1 41 := ⟨by decide +kernel, rfl⟩
set_option maxRecDepth 100000 in
theorem d_JLong_bitCount_41 : Dc m_JLong_bitCount 41 (.lload_n 0) 1 42 := ⟨by decide +kernel, rfl⟩
set_option maxRecDepth 100000 in
theorem d_JLong_bitCount_42 : Dc m_JLong_bitCount 42 (.lload_n 0) 1 43 := ⟨by decide +kernel, rfl⟩
set_option maxRecDepth 100000 in
theorem d_JLong_bitCount_43 : Dc m_JLong_bitCount 43 (.bipush (16)) 2 45 := ⟨by decide +kernel, rfl⟩
set_option maxRecDepth 100000 in
theorem d_JLong_bitCount_45 : Dc m_JLong_bitCount 45 .lushr 1 46 := ⟨by decide +kernel, rfl⟩
set_option maxRecDepth 100000 in
theorem d_JLong_bitCount_46 : Dc m_JLong_bitCount 46 .ladd 1 47 := ⟨by decide +kernel, rfl⟩
set_option maxRecDepth 100000 in
theorem d_JLong_bitCount_47 : Dc m_JLong_bitCount 47 (.lstore_n 0) 1 48 := ⟨by decide +kernel, rfl⟩
set_option maxRecDepth 100000 in
theorem d_JLong_bitCount_48 : Dc m_JLong_bitCount 48 (.lload_n 0) 1 49 := ⟨by decide +kernel, rfl⟩
set_option maxRecDepth 100000 in
theorem d_JLong_bitCount_49 : Dc m_JLong_bitCount 49 (.lload_n 0) 1 50 := ⟨by decide +kernel, rfl⟩
set_option maxRecDepth 100000 in
theorem d_JLong_bitCount_50 : Dc m_JLong_bitCount 50 (.bipush (32)) 2 52 := ⟨by decide +kernel, rfl⟩
set_option maxRecDepth 100000 in
theorem d_JLong_bitCount_52 : Dc m_JLong_bitCount 52 .lushr 1 53 := ⟨by decide +kernel, rfl⟩
set_option maxRecDepth 100000 in
theorem d_JLong_bitCount_53 : Dc m_JLong_bitCount 53 .ladd 1 54 := ⟨by decide +kernel, rfl⟩
set_option maxRecDepth 100000 in
theorem d_JLong_bitCount_54 : Dc m_JLong_bitCount 54 (.lstore_n 0) 1 55 := ⟨by decide +kernel, rfl⟩
set_option maxRecDepth 100000 in
theorem d_JLong_bitCount_55 : Dc m_JLong_bitCount 55 (.lload_n 0) 1 56 := ⟨by decide +kernel, rfl⟩
set_option maxRecDepth 100000 in
theorem d_JLong_bitCount_56 : Dc m_JLong_bitCount 56 .l2i 1 57 := ⟨by decide +kernel, rfl⟩
set_option maxRecDepth 100000 in
theorem d_JLong_bitCount_57 : Dc m_JLong_bitCount 57 (.bipush (127)) 2 59 := ⟨by decide +kernel, rfl⟩
set_option maxRecDepth 100000 in
theorem d_JLong_bitCount_59 : Dc m_JLong_bitCount 59 .iand 1 60 := ⟨by decide +kernel, rfl⟩
set_option maxRecDepth 100000 in
theorem d_JLong_bitCount_60 : Dc m_JLong_bitCount 60 .ireturn 1 61 := ⟨by decide +kernel, rfl⟩
set_option maxRecDepth 100000 in
theorem kc_JLong_314 : Cond.constantLong "java/lang/Long" 314 (6148914691236517205) ∈ gtb := gi 655 rfl rfl
set_option maxRecDepth 100000 in
theorem kc_JLong_316 : Cond.constantLong "java/lang/Long" 316 (3689348814741910323) ∈ gtb := gi 656 rfl rfl
set_option maxRecDepth 100000 in
theorem kc_JLong_318 : Cond.constantLong "java/lang/Long" 318 (1085102592571150095) ∈ gtb := gi 657 rfl rfl
def ush (x : Int64) (k : Int32) : Int64 := (x.toUInt64 >>> (k.toInt64.toUInt64 &&& Int64.toUInt64 63)).toInt64
def bc1 (x : Int64) : Int64 := x - (ush x 1 &&& 6148914691236517205)
def bc2 (x : Int64) : Int64 := (x &&& 3689348814741910323) + (ush x 2 &&& 3689348814741910323)
def bc3 (x : Int64) : Int64 := (x + ush x 4) &&& 1085102592571150095
def bc4 (x : Int64) : Int64 := x + ush x 8
def bc5 (x : Int64) : Int64 := x + ush x 16
def bc6 (x : Int64) : Int64 := x + ush x 32
def bitS (x : Int64) : Int32 := (bc6 (bc5 (bc4 (bc3 (bc2 (bc1 x)))))).toInt32 &&& 127
set_option maxHeartbeats 400000 in
theorem c_JLong_bitCount (x : Int64) (μ : Me) : CtI m_JLong_bitCount 0 [.long x] μ (bitS x) μ := by
  refine Ct.of (ls := [.long x, flr]) rfl (Nat.le_of_ble_eq_true rfl) rfl (fun X => ?_)
  refine r_lload_n 0 d_JLong_bitCount_0 rfl rfl ?_
  refine r_lload_n 0 d_JLong_bitCount_1 rfl rfl ?_
  refine r_iconst 1 d_JLong_bitCount_2 rfl ?_
  refine r_lushr d_JLong_bitCount_3 ?_
  refine r_ldc2 kc_JLong_314 d_JLong_bitCount_4 ?_
  refine r_land d_JLong_bitCount_7 ?_
  refine r_lsub d_JLong_bitCount_8 ?_
  refine r_lstore_n 0 [_, _] d_JLong_bitCount_9 rfl (by decide) rfl ?_
  refine r_lload_n 0 d_JLong_bitCount_10 rfl rfl ?_
  refine r_ldc2 kc_JLong_316 d_JLong_bitCount_11 ?_
  refine r_land d_JLong_bitCount_14 ?_
  refine r_lload_n 0 d_JLong_bitCount_15 rfl rfl ?_
  refine r_iconst 2 d_JLong_bitCount_16 rfl ?_
  refine r_lushr d_JLong_bitCount_17 ?_
  refine r_ldc2 kc_JLong_316 d_JLong_bitCount_18 ?_
  refine r_land d_JLong_bitCount_21 ?_
  refine r_ladd d_JLong_bitCount_22 ?_
  refine r_lstore_n 0 [_, _] d_JLong_bitCount_23 rfl (by decide) rfl ?_
  refine r_lload_n 0 d_JLong_bitCount_24 rfl rfl ?_
  refine r_lload_n 0 d_JLong_bitCount_25 rfl rfl ?_
  refine r_iconst 4 d_JLong_bitCount_26 rfl ?_
  refine r_lushr d_JLong_bitCount_27 ?_
  refine r_ladd d_JLong_bitCount_28 ?_
  refine r_ldc2 kc_JLong_318 d_JLong_bitCount_29 ?_
  refine r_land d_JLong_bitCount_32 ?_
  refine r_lstore_n 0 [_, _] d_JLong_bitCount_33 rfl (by decide) rfl ?_
  refine r_lload_n 0 d_JLong_bitCount_34 rfl rfl ?_
  refine r_lload_n 0 d_JLong_bitCount_35 rfl rfl ?_
  refine r_bipush (8) d_JLong_bitCount_36 (by decide) ?_
  refine r_lushr d_JLong_bitCount_38 ?_
  refine r_ladd d_JLong_bitCount_39 ?_
  refine r_lstore_n 0 [_, _] d_JLong_bitCount_40 rfl (by decide) rfl ?_
  refine r_lload_n 0 d_JLong_bitCount_41 rfl rfl ?_
  refine r_lload_n 0 d_JLong_bitCount_42 rfl rfl ?_
  refine r_bipush (16) d_JLong_bitCount_43 (by decide) ?_
  refine r_lushr d_JLong_bitCount_45 ?_
  refine r_ladd d_JLong_bitCount_46 ?_
  refine r_lstore_n 0 [_, _] d_JLong_bitCount_47 rfl (by decide) rfl ?_
  refine r_lload_n 0 d_JLong_bitCount_48 rfl rfl ?_
  refine r_lload_n 0 d_JLong_bitCount_49 rfl rfl ?_
  refine r_bipush (32) d_JLong_bitCount_50 (by decide) ?_
  refine r_lushr d_JLong_bitCount_52 ?_
  refine r_ladd d_JLong_bitCount_53 ?_
  refine r_lstore_n 0 [_, _] d_JLong_bitCount_54 rfl (by decide) rfl ?_
  refine r_lload_n 0 d_JLong_bitCount_55 rfl rfl ?_
  refine r_l2i d_JLong_bitCount_56 ?_
  refine r_bipush (127) d_JLong_bitCount_57 (by decide) ?_
  refine r_iand d_JLong_bitCount_59 ?_
  refine r_iret .int d_JLong_bitCount_60 rfl rfl ?_
  exact ⟨rfl, rfl⟩
def lastA (μ : Me) (F : Nat → Int32 × Int32 × Int32 × Int32) : Nat → Me
  | 0 => μ
  | i + 1 => ansM μ (F i)
theorem lastA_ne {μ : Me} {F : Nat → Int32 × Int32 × Int32 × Int32} {c : Nat} (h : c ≠ 57) : ∀ i, (lastA μ F i).1 c = μ.1 c
  | 0 => rfl
  | i + 1 => ansM_ne h
theorem lastA_s {μ : Me} {F : Nat → Int32 × Int32 × Int32 × Int32} {q : Int32 × Int32 × Int32 × Int32} : ∀ i, ansM (lastA μ F i) q = ansM μ q
  | 0 => rfl
  | i + 1 => ansM_ansM
set_option maxHeartbeats 400000 in
theorem c_S_knownSet {c : Nat} (hc : isL c) (t : Int32) (μ : Me) : CtL m_S_knownSet 5 [.ref 0, .ref c, .int t] μ (knF (knB (μ.1 c 0) (μ.1 c 1) (μ.1 (c + 1)) t (μ.1 3 1) (μ.1 3 2)) 36) (ansM μ (findS (μ.1 c 0) (μ.1 c 1) (μ.1 (c + 1)) 35 t (μ.1 3 1) (μ.1 3 2))) := by
  refine Ct.of (ls := [.ref 0, .ref c, .int t, flr, flr, flr]) rfl (Nat.le_of_ble_eq_true rfl) rfl (fun X => ?_)
  obtain ⟨s9, s0, s1, s2, s3⟩ := id hc
  refine r_lconst 0 d_S_knownSet_0 rfl ?_
  refine r_lstore_n 3 [_, _, _, _, _, _] d_S_knownSet_1 rfl (by decide) rfl ?_
  refine r_iconst 0 d_S_knownSet_2 rfl ?_
  refine r_istore 5 [_, _, _, _, _, _] d_S_knownSet_3 (by decide) rfl ?_
  have lp := lpN 36 (fun i (w : Int64) => Wa X m_S_knownSet 5 5 [.ref 0, .ref c, .int t, .long w, flr, .int (nI i)] [] (lastA μ (fun p => findS (μ.1 c 0) (μ.1 c 1) (μ.1 (c + 1)) p t (μ.1 3 1) (μ.1 3 2)) i) (fun r μ' => r = some (.long (knF (knB (μ.1 c 0) (μ.1 c 1) (μ.1 (c + 1)) t (μ.1 3 1) (μ.1 3 2)) 36)) ∧ μ' = ansM μ (findS (μ.1 c 0) (μ.1 c 1) (μ.1 (c + 1)) 35 t (μ.1 3 1) (μ.1 3 2)))) (fun i w => w = knF (knB (μ.1 c 0) (μ.1 c 1) (μ.1 (c + 1)) t (μ.1 3 1) (μ.1 3 2)) i) ?_ 0 0 (Nat.zero_le _) rfl
  · exact lp
  · intro i w hi hw hk
    refine r_iload 5 d_S_knownSet_5 rfl ?_
    refine r_bipush (36) d_S_knownSet_7 (by decide) ?_
    refine r_icmp_ge d_S_knownSet_9 (fun h9 => ?_) (fun h9 => ?_)
    · refine r_lload_n 3 d_S_knownSet_53 rfl rfl ?_
      refine r_lret d_S_knownSet_54 rfl ?_
      have hge := n_le (a := 36) h9 rfl rfl (by decide) (by omega)
      obtain rfl : i = 36 := by omega
      exact ⟨by rw [hw], rfl⟩
    · have hl : i < 36 := n_lt (a := 36) h9 rfl rfl (by decide) (by omega)
      refine r_aload_n 0 d_S_knownSet_12 rfl rfl ?_
      refine r_getR fl_S_47 (by first | with_reducible assumption | rfl) rfl d_S_knownSet_13 ?_
      refine r_aload_n 1 d_S_knownSet_16 rfl rfl ?_
      refine r_iload 5 d_S_knownSet_17 rfl ?_
      refine r_iload_n 2 d_S_knownSet_19 rfl rfl ?_
      refine r_aload_n 0 d_S_knownSet_20 rfl rfl ?_
      refine r_getR fl_S_12 (by first | with_reducible assumption | rfl) rfl d_S_knownSet_21 ?_
      refine r_getR fl_S_184 (by first | with_reducible assumption | rfl) rfl d_S_knownSet_24 ?_
      refine r_callVv (c_Answer_find hc hl rfl _ _) lk_S_196 (by first | with_reducible assumption | rfl) d_S_knownSet_27 rfl rfl (Nat.le_of_ble_eq_true rfl) (by decide) ?_
      rw [lastA_ne (by omega), lastA_ne (by omega), lastA_ne (by decide), lastA_s]
      refine r_aload_n 0 d_S_knownSet_30 rfl rfl ?_
      refine r_getR fl_S_47 (by first | with_reducible assumption | rfl) rfl d_S_knownSet_31 ?_
      refine r_callVi (c_Answer_isProduct _) lk_S_286 (by first | with_reducible assumption | rfl) d_S_knownSet_34 rfl rfl (Nat.le_of_ble_eq_true rfl) (by decide) ?_
      rw [ansM_1]
      refine r_if_eq d_S_knownSet_37 (fun h37 => ?_) (fun h37 => ?_)
      · first | refine r_iincN 5 [_, _, _, _, _, _] d_S_knownSet_47 (by decide) rfl rfl ?_ | refine r_iinc 5 [_, _, _, _, _, _] (1) d_S_knownSet_47 (by decide) (by decide) rfl rfl ?_
        refine r_goto d_S_knownSet_50 ?_
        refine hk _ hl ?_
        rw [knF, hw]
        first
          | exact (if_neg (by simpa [knB] using bz_np h37)).symm
          | exact (if_pos (by simpa [knB] using bz_p h37)).symm
      · refine r_lload_n 3 d_S_knownSet_40 rfl rfl ?_
        refine r_lconst 1 d_S_knownSet_41 rfl ?_
        refine r_iload 5 d_S_knownSet_42 rfl ?_
        refine r_lshl d_S_knownSet_44 ?_
        refine r_lor d_S_knownSet_45 ?_
        refine r_lstore_n 3 [_, _, _, _, _, _] d_S_knownSet_46 rfl (by decide) rfl ?_
        first | refine r_iincN 5 [_, _, _, _, _, _] d_S_knownSet_47 (by decide) rfl rfl ?_ | refine r_iinc 5 [_, _, _, _, _, _] (1) d_S_knownSet_47 (by decide) (by decide) rfl rfl ?_
        refine r_goto d_S_knownSet_50 ?_
        refine hk _ hl ?_
        rw [knF, hw]
        first
          | exact (if_neg (by simpa [knB] using bz_np h37)).symm
          | exact (if_pos (by simpa [knB] using bz_p h37)).symm
def knS (μ : Me) (c : Nat) (t : Int32) : Int64 := knF (knB (μ.1 c 0) (μ.1 c 1) (μ.1 (c + 1)) t (μ.1 3 1) (μ.1 3 2)) 36
def knA (μ : Me) (c : Nat) (t : Int32) : Me := ansM μ (findS (μ.1 c 0) (μ.1 c 1) (μ.1 (c + 1)) 35 t (μ.1 3 1) (μ.1 3 2))
set_option maxHeartbeats 400000 in
theorem c_S_known_no {m : Nat} (l t : Int32) (μ : Me) (hct : μ.1 1 1 = nI m) (hm : m ≤ 4) (hG : ¬ ((0 ≤ l ∧ l < nI m) ∧ 1 ≤ t ∧ t ≤ 9)) : CtL m_S_known 6 [.ref 0, .int l, .int t] μ (-1) μ := by
  refine Ct.of (ls := [.ref 0, .int l, .int t, flr]) rfl (Nat.le_of_ble_eq_true rfl) rfl (fun X => ?_)
  by_cases hg : 0 ≤ l ∧ l < nI m
  · obtain ⟨j, hj, rfl⟩ := lr_yes hm hg
    refine r_aload_n 0 d_S_known_0 rfl rfl ?_
    refine r_getR fl_S_12 (by first | with_reducible assumption | rfl) rfl d_S_known_1 ?_
    refine r_iload_n 1 d_S_known_4 rfl rfl ?_
    refine r_callVa (c_School_learnerAt_yes j m hj hm _ hct) lk_S_127 (by first | with_reducible assumption | rfl) d_S_known_5 rfl rfl (Nat.le_of_ble_eq_true rfl) (by decide) ?_
    refine r_astore_n 3 [_, _, _, _] d_S_known_8 rfl (by decide) rfl ?_
    refine r_aload_n 3 d_S_known_9 rfl rfl ?_
    refine r_ifnull d_S_known_10 ?_
    refine r_iload_n 2 d_S_known_13 rfl rfl ?_
    refine r_callSi (c_S_isSeconds _ _) lk_S_190 d_S_known_14 rfl rfl (Nat.le_of_ble_eq_true rfl) (by decide) ?_
    refine r_if_ne d_S_known_17 (fun h17 => absurd (bz_0.mpr (fun z => hG ⟨hg, z⟩)) h17) (fun h17 => ?_)
    refine r_ldc2 kc_S_161 d_S_known_20 ?_
    refine r_lret d_S_known_23 rfl ?_
    exact ⟨rfl, rfl⟩
  · have hno := lr_no hg
    rw [← hct] at hno
    refine r_aload_n 0 d_S_known_0 rfl rfl ?_
    refine r_getR fl_S_12 (by first | with_reducible assumption | rfl) rfl d_S_known_1 ?_
    refine r_iload_n 1 d_S_known_4 rfl rfl ?_
    refine r_callVa (c_School_learnerAt_no _ _ hno) lk_S_127 (by first | with_reducible assumption | rfl) d_S_known_5 rfl rfl (Nat.le_of_ble_eq_true rfl) (by decide) ?_
    refine r_astore_nN 3 [_, _, _, _] d_S_known_8 rfl (by decide) rfl ?_
    refine r_aload_nN 3 d_S_known_9 rfl rfl ?_
    refine r_ifnullN d_S_known_10 ?_
    refine r_ldc2 kc_S_161 d_S_known_20 ?_
    refine r_lret d_S_known_23 rfl ?_
    exact ⟨rfl, rfl⟩
set_option maxHeartbeats 400000 in
theorem c_S_known {m j : Nat} (hm : m ≤ 4) (hj : j < m) (t : Int32) (ht : 1 ≤ t ∧ t ≤ 9) (μ : Me) (hct : μ.1 1 1 = nI m) : CtL m_S_known 6 [.ref 0, .int (nI j), .int t] μ (knS μ (8 + 4 * j) t) (knA μ (8 + 4 * j) t) := by
  refine Ct.of (ls := [.ref 0, .int (nI j), .int t, flr]) rfl (Nat.le_of_ble_eq_true rfl) rfl (fun X => ?_)
  refine r_aload_n 0 d_S_known_0 rfl rfl ?_
  refine r_getR fl_S_12 (by first | with_reducible assumption | rfl) rfl d_S_known_1 ?_
  refine r_iload_n 1 d_S_known_4 rfl rfl ?_
  refine r_callVa (c_School_learnerAt_yes j m hj hm _ hct) lk_S_127 (by first | with_reducible assumption | rfl) d_S_known_5 rfl rfl (Nat.le_of_ble_eq_true rfl) (by decide) ?_
  refine r_astore_n 3 [_, _, _, _] d_S_known_8 rfl (by decide) rfl ?_
  refine r_aload_n 3 d_S_known_9 rfl rfl ?_
  refine r_ifnull d_S_known_10 ?_
  refine r_iload_n 2 d_S_known_13 rfl rfl ?_
  refine r_callSi (c_S_isSeconds _ _) lk_S_190 d_S_known_14 rfl rfl (Nat.le_of_ble_eq_true rfl) (by decide) ?_
  refine r_if_ne d_S_known_17 (fun h17 => ?_) (fun h17 => absurd h17 (fun z => bz_np z ht))
  refine r_aload_n 0 d_S_known_24 rfl rfl ?_
  refine r_aload_n 3 d_S_known_25 rfl rfl ?_
  refine r_iload_n 2 d_S_known_26 rfl rfl ?_
  refine r_callVl (c_S_knownSet (isL_s j (by omega)) _ _) lk_S_223 (by first | with_reducible assumption | rfl) d_S_known_27 rfl rfl (Nat.le_of_ble_eq_true rfl) (by decide) ?_
  refine r_lret d_S_known_30 rfl ?_
  exact ⟨rfl, rfl⟩
set_option maxHeartbeats 400000 in
theorem c_S_commonDivisor_dummy : True := trivial
/-- till: how often told -/
def tillF (lv : Int32) : Nat → Int32 → Nat → Nat
  | 0, _, n => n
  | k + 1, f, n => if f < lv then tillF lv k (toldS f) (n + 1) else n
set_option maxHeartbeats 400000 in
theorem c_S_till_loop (X : Nat × (Nat → Int32)) (μ : Me) (c : Nat) (l p lv : Int32) (N : Nat) : ∀ (k n : Nat) (f : Int32), n + k = 99 → tillF lv k f n = N → Wa X m_S_till 3 45 [.ref 0, .int l, .int p, .int lv, .ref c, .int f, .int (nI n)] [] μ (fun r μ' => r = some (.int (nI N)) ∧ μ' = μ) := by
  intro k
  induction k with
  | zero =>
    intro n f hn hN
    refine r_iload 6 d_S_till_45 rfl ?_
    refine r_bipush (99) d_S_till_47 (by decide) ?_
    refine r_icmp_ge d_S_till_49 (fun h49 => ?_) (fun h49 => absurd (by rw [show n = 99 by omega]; decide) h49)
    refine r_iload 6 d_S_till_71 rfl ?_
    refine r_iret .int d_S_till_73 rfl rfl ?_
    exact ⟨by rw [← hN, tillF], rfl⟩
  | succ k ih =>
    intro n f hn hN
    refine r_iload 6 d_S_till_45 rfl ?_
    refine r_bipush (99) d_S_till_47 (by decide) ?_
    refine r_icmp_ge d_S_till_49 (fun h49 => absurd h49 (nI_ge (show n < 99 by omega) (by decide))) (fun h49 => ?_)
    refine r_iload 5 d_S_till_52 rfl ?_
    refine r_iload_n 3 d_S_till_54 rfl rfl ?_
    refine r_icmp_ge d_S_till_55 (fun h55 => ?_) (fun h55 => ?_)
    · refine r_iload 6 d_S_till_71 rfl ?_
      refine r_iret .int d_S_till_73 rfl rfl ?_
      exact ⟨by rw [← hN, tillF, if_neg (Int32.not_lt.mpr h55)], rfl⟩
    · refine r_iload 5 d_S_till_58 rfl ?_
      refine r_callSi (c_S_firmWhenTold _ _) lk_S_268 d_S_till_60 rfl rfl (Nat.le_of_ble_eq_true rfl) (by decide) ?_
      refine r_istore 5 [_, _, _, _, _, _, _] d_S_till_63 (by decide) rfl ?_
      first | refine r_iincN 6 [_, _, _, _, _, _, _] d_S_till_65 (by decide) rfl rfl ?_ | refine r_iinc 6 [_, _, _, _, _, _, _] (1) d_S_till_65 (by decide) (by decide) rfl rfl ?_
      refine r_goto d_S_till_68 ?_
      refine ih _ _ (by omega) ?_
      rw [← hN, tillF, if_pos (Int32.not_le.mp h55)]
set_option maxHeartbeats 400000 in
theorem c_S_till_no {m : Nat} (l p lv : Int32) (μ : Me) (hct : μ.1 1 1 = nI m) (hm : m ≤ 4) (hG : ¬ ((0 ≤ l ∧ l < nI m) ∧ (0 ≤ p ∧ p < 36) ∧ 0 ≤ lv ∧ lv ≤ 100)) : CtI m_S_till 3 [.ref 0, .int l, .int p, .int lv] μ (-1) μ := by
  refine Ct.of (ls := [.ref 0, .int l, .int p, .int lv, flr, flr, flr]) rfl (Nat.le_of_ble_eq_true rfl) rfl (fun X => ?_)
  by_cases hg : 0 ≤ l ∧ l < nI m
  · obtain ⟨j, hj, rfl⟩ := lr_yes hm hg
    refine r_aload_n 0 d_S_till_0 rfl rfl ?_
    refine r_getR fl_S_12 (by first | with_reducible assumption | rfl) rfl d_S_till_1 ?_
    refine r_iload_n 1 d_S_till_4 rfl rfl ?_
    refine r_callVa (c_School_learnerAt_yes j m hj hm _ hct) lk_S_127 (by first | with_reducible assumption | rfl) d_S_till_5 rfl rfl (Nat.le_of_ble_eq_true rfl) (by decide) ?_
    refine r_astore 4 [_, _, _, _, _, _, _] d_S_till_8 (by decide) rfl ?_
    refine r_aload 4 d_S_till_10 rfl ?_
    refine r_ifnull d_S_till_12 ?_
    refine r_iload_n 2 d_S_till_15 rfl rfl ?_
    refine r_callSi (c_S_isPair _ _) lk_S_144 d_S_till_16 rfl rfl (Nat.le_of_ble_eq_true rfl) (by decide) ?_
    refine r_if_eq d_S_till_19 (fun h19 => ?_) (fun h19 => ?_)
    · refine r_iconst (-1) d_S_till_31 rfl ?_
      refine r_iret .int d_S_till_32 rfl rfl ?_
      exact ⟨rfl, rfl⟩
    · refine r_iload_n 3 d_S_till_22 rfl rfl ?_
      refine r_bipush (100) d_S_till_23 (by decide) ?_
      refine r_callSi (c_S_isWithin _ _ _) lk_S_118 d_S_till_25 rfl rfl (Nat.le_of_ble_eq_true rfl) (by decide) ?_
      refine r_if_ne d_S_till_28 (fun h28 => absurd (bz_0.mpr (fun z => hG ⟨hg, bz_p h19, z⟩)) h28) (fun h28 => ?_)
      refine r_iconst (-1) d_S_till_31 rfl ?_
      refine r_iret .int d_S_till_32 rfl rfl ?_
      exact ⟨rfl, rfl⟩
  · have hno := lr_no hg
    rw [← hct] at hno
    refine r_aload_n 0 d_S_till_0 rfl rfl ?_
    refine r_getR fl_S_12 (by first | with_reducible assumption | rfl) rfl d_S_till_1 ?_
    refine r_iload_n 1 d_S_till_4 rfl rfl ?_
    refine r_callVa (c_School_learnerAt_no _ _ hno) lk_S_127 (by first | with_reducible assumption | rfl) d_S_till_5 rfl rfl (Nat.le_of_ble_eq_true rfl) (by decide) ?_
    refine r_astoreN 4 [_, _, _, _, _, _, _] d_S_till_8 (by decide) rfl ?_
    refine r_aloadN 4 d_S_till_10 rfl ?_
    refine r_ifnullN d_S_till_12 ?_
    refine r_iconst (-1) d_S_till_31 rfl ?_
    refine r_iret .int d_S_till_32 rfl rfl ?_
    exact ⟨rfl, rfl⟩
set_option maxHeartbeats 400000 in
theorem c_S_till {m j q : Nat} (hm : m ≤ 4) (hj : j < m) (hq : q < 36) (lv : Int32) (hl : 0 ≤ lv ∧ lv ≤ 100) (μ : Me) (hct : μ.1 1 1 = nI m) : CtI m_S_till 3 [.ref 0, .int (nI j), .int (nI q), .int lv] μ (nI (tillF lv 99 (μ.1 (8 + 4 * j + 1) q) 0)) μ := by
  refine Ct.of (ls := [.ref 0, .int (nI j), .int (nI q), .int lv, flr, flr, flr]) rfl (Nat.le_of_ble_eq_true rfl) rfl (fun X => ?_)
  have hj4 : j < 4 := by omega
  obtain ⟨s9, s0, s1, s2, s3⟩ := isL_s j hj4
  refine r_aload_n 0 d_S_till_0 rfl rfl ?_
  refine r_getR fl_S_12 (by first | with_reducible assumption | rfl) rfl d_S_till_1 ?_
  refine r_iload_n 1 d_S_till_4 rfl rfl ?_
  refine r_callVa (c_School_learnerAt_yes j m hj hm _ hct) lk_S_127 (by first | with_reducible assumption | rfl) d_S_till_5 rfl rfl (Nat.le_of_ble_eq_true rfl) (by decide) ?_
  refine r_astore 4 [_, _, _, _, _, _, _] d_S_till_8 (by decide) rfl ?_
  refine r_aload 4 d_S_till_10 rfl ?_
  refine r_ifnull d_S_till_12 ?_
  refine r_iload_n 2 d_S_till_15 rfl rfl ?_
  refine r_callSi (c_S_isPair _ _) lk_S_144 d_S_till_16 rfl rfl (Nat.le_of_ble_eq_true rfl) (by decide) ?_
  refine r_if_eq d_S_till_19 (fun h19 => absurd h19 (fun z => bz_np z ⟨nI_pos' (by omega), nI_lt hq (by decide)⟩)) (fun h19 => ?_)
  refine r_iload_n 3 d_S_till_22 rfl rfl ?_
  refine r_bipush (100) d_S_till_23 (by decide) ?_
  refine r_callSi (c_S_isWithin _ _ _) lk_S_118 d_S_till_25 rfl rfl (Nat.le_of_ble_eq_true rfl) (by decide) ?_
  refine r_if_ne d_S_till_28 (fun h28 => ?_) (fun h28 => absurd h28 (fun z => bz_np z hl))
  refine r_aload 4 d_S_till_33 rfl ?_
  refine r_getR fl_S_166 (by first | with_reducible assumption | rfl) rfl d_S_till_35 ?_
  refine r_iload_n 2 d_S_till_38 rfl rfl ?_
  refine r_ialdN (by first | with_reducible assumption | rfl) (by first | with_reducible assumption | omega | decide | assumption) d_S_till_39 ?_
  refine r_istore 5 [_, _, _, _, _, _, _] d_S_till_40 (by decide) rfl ?_
  refine r_iconst 0 d_S_till_42 rfl ?_
  refine r_istore 6 [_, _, _, _, _, _, _] d_S_till_43 (by decide) rfl ?_
  exact c_S_till_loop X μ _ _ _ _ _ 99 0 _ rfl rfl

