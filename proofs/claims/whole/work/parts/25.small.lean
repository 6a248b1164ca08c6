/-! SHEETS, SHELVES, the thing that does an ACT, ROWS -/
def isSh (c : Nat) : Prop := shp[c]? = some (.inl (7, [0, 0, c + 3])) ∧ shp[c + 1]? = some (.inr (2, 40, 0, 0))
def isSf (c : Nat) : Prop := shp[c]? = some (.inl (8, [0, 0, 0]))
set_option maxHeartbeats 400000 in
theorem c_Sheet_isMissing {c : Nat} (hc : isSh c) (μ : Me) : CtI m_Sheet_isMissing 0 [.ref c] μ (bz (μ.1 c 0 = -1)) μ := by
  refine Ct.of (ls := [.ref c]) rfl (Nat.le_of_ble_eq_true rfl) rfl (fun X => ?_)
  obtain ⟨s0, s1⟩ := hc
  refine r_aload_n 0 d_Sheet_isMissing_0 rfl rfl ?_
  refine r_getI fl_Sheet_9 (by first | with_reducible assumption | rfl) rfl d_Sheet_isMissing_1 ?_
  refine r_iconst (-1) d_Sheet_isMissing_4 rfl ?_
  refine r_icmp_ne d_Sheet_isMissing_5 (fun h5 => ?_) (fun h5 => ?_)
  · refine r_iconst 0 d_Sheet_isMissing_12 rfl ?_
    refine r_iret .boolean d_Sheet_isMissing_13 rfl (by first | decide | assumption) ?_
    exact ⟨by simp_all [bz], rfl⟩
  · refine r_iconst 1 d_Sheet_isMissing_8 rfl ?_
    refine r_goto d_Sheet_isMissing_9 ?_
    refine r_iret .boolean d_Sheet_isMissing_13 rfl (by first | decide | assumption) ?_
    exact ⟨by simp_all [bz], rfl⟩
set_option maxHeartbeats 400000 in
theorem c_Sheet_lose {c : Nat} (hc : isSh c) (μ : Me) : CtV m_Sheet_lose 0 [.ref c] μ (uI (uI μ c 0 (-1)) c 1 0) := by
  refine Ct.of (ls := [.ref c]) rfl (Nat.le_of_ble_eq_true rfl) rfl (fun X => ?_)
  obtain ⟨s0, s1⟩ := hc
  refine r_aload_n 0 d_Sheet_lose_0 rfl rfl ?_
  refine r_iconst (-1) d_Sheet_lose_1 rfl ?_
  refine r_putI fp_Sheet_9 (by first | with_reducible assumption | rfl) rfl d_Sheet_lose_2 ?_
  refine r_aload_n 0 d_Sheet_lose_5 rfl rfl ?_
  refine r_iconst 0 d_Sheet_lose_6 rfl ?_
  refine r_putI fp_Sheet_15 (by first | with_reducible assumption | rfl) rfl d_Sheet_lose_7 ?_
  refine r_ret d_Sheet_lose_10 rfl ?_
  exact ⟨rfl, rfl⟩
def narS (s v : Int32) : Int64 := if s = 0 then v.toInt8.toInt32.toInt64 else if s = 1 then v.toInt16.toInt32.toInt64 else v.toInt64
set_option maxHeartbeats 400000 in
theorem c_Sheet_narrowed {c : Nat} (hc : isSh c) (v : Int32) (μ : Me) : CtL m_Sheet_narrowed 0 [.ref c, .int v] μ (narS (μ.1 c 0) v) μ := by
  refine Ct.of (ls := [.ref c, .int v]) rfl (Nat.le_of_ble_eq_true rfl) rfl (fun X => ?_)
  obtain ⟨s0, s1⟩ := hc
  refine r_aload_n 0 d_Sheet_narrowed_0 rfl rfl ?_
  refine r_getI fl_Sheet_9 (by first | with_reducible assumption | rfl) rfl d_Sheet_narrowed_1 ?_
  refine r_if_ne d_Sheet_narrowed_4 (fun h4 => ?_) (fun h4 => ?_)
  · refine r_aload_n 0 d_Sheet_narrowed_11 rfl rfl ?_
    refine r_getI fl_Sheet_9 (by first | with_reducible assumption | rfl) rfl d_Sheet_narrowed_12 ?_
    refine r_iconst 1 d_Sheet_narrowed_15 rfl ?_
    refine r_icmp_ne d_Sheet_narrowed_16 (fun h16 => ?_) (fun h16 => ?_)
    · refine r_iload_n 1 d_Sheet_narrowed_23 rfl rfl ?_
      refine r_i2l d_Sheet_narrowed_24 ?_
      refine r_lret d_Sheet_narrowed_25 rfl ?_
      exact ⟨by simp [narS, *], rfl⟩
    · refine r_iload_n 1 d_Sheet_narrowed_19 rfl rfl ?_
      refine r_i2s d_Sheet_narrowed_20 ?_
      refine r_i2l d_Sheet_narrowed_21 ?_
      refine r_lret d_Sheet_narrowed_22 rfl ?_
      exact ⟨by simp [narS, *], rfl⟩
  · refine r_iload_n 1 d_Sheet_narrowed_7 rfl rfl ?_
    refine r_i2b d_Sheet_narrowed_8 ?_
    refine r_i2l d_Sheet_narrowed_9 ?_
    refine r_lret d_Sheet_narrowed_10 rfl ?_
    exact ⟨by simp [narS, *], rfl⟩
def cutL (i : Nat) (g f : Nat → Int64) : Nat → Int64 := fun p => if p < i then g p else f p
theorem cutL_0 {g f : Nat → Int64} : cutL 0 g f = f := by funext p; simp [cutL]
theorem cutL_s {g f : Nat → Int64} {i : Nat} : vp_updL (cutL i g f) i (g i) = cutL (i + 1) g f := by
  funext p
  by_cases h : p = i
  · subst h; simp [vp_updL, cutL]
  · simp only [vp_updL, cutL, h, if_false]
    by_cases h2 : p < i
    · simp [h2, Nat.lt_succ_of_lt h2]
    · simp [h2, show ¬ p < i + 1 by omega]
theorem uL_rL {μ : Me} {c j : Nat} {f : Nat → Int64} {v : Int64} : uL (rL μ c f) c j v = rL μ c (vp_updL f j v) := by
  refine Me_ext (fun _ _ => rfl) (fun c' j' => ?_)
  by_cases h : c' = c
  · subst h; simp [uL, rL]
  · simp [uL, rL, h]
theorem rL_self {μ : Me} {c : Nat} : rL μ c (μ.2 c) = μ := by
  refine Me_ext (fun _ _ => rfl) (fun c' j' => ?_)
  by_cases h : c' = c
  · subst h; simp [rL]
  · simp [rL, h]
set_option maxHeartbeats 400000 in
theorem c_Sheet_become {c : Nat} (hc : isSh c) (s n : Int32) (μ : Me) : CtV m_Sheet_become 0 [.ref c, .int s, .int n] μ (rL (uI (uI μ c 0 s) c 1 n) (c + 1) (cutL 40 (fun _ => 0) (μ.2 (c + 1)))) := by
  refine Ct.of (ls := [.ref c, .int s, .int n, flr]) rfl (Nat.le_of_ble_eq_true rfl) rfl (fun X => ?_)
  obtain ⟨s0, s1⟩ := hc
  refine r_aload_n 0 d_Sheet_become_0 rfl rfl ?_
  refine r_iload_n 1 d_Sheet_become_1 rfl rfl ?_
  refine r_putI fp_Sheet_9 (by first | with_reducible assumption | rfl) rfl d_Sheet_become_2 ?_
  refine r_aload_n 0 d_Sheet_become_5 rfl rfl ?_
  refine r_iload_n 2 d_Sheet_become_6 rfl rfl ?_
  refine r_putI fp_Sheet_15 (by first | with_reducible assumption | rfl) rfl d_Sheet_become_7 ?_
  refine r_iconst 0 d_Sheet_become_10 rfl ?_
  refine r_istore_n 3 [_, _, _, _] d_Sheet_become_11 rfl (by decide) rfl ?_
  refine lpN 40 (fun i (μ1 : Me) => Wa X m_Sheet_become 0 12 [.ref c, .int s, .int n, .int (nI i)] [] μ1 _) (fun i μ1 => μ1 = rL (uI (uI μ c 0 s) c 1 n) (c + 1) (cutL i (fun _ => 0) (μ.2 (c + 1)))) ?_ 0 _ (Nat.zero_le _) (by rw [cutL_0]; exact (rL_self (μ := uI (uI μ c 0 s) c 1 n)).symm)
  intro i μ1 hi hw hk
  subst hw
  refine r_iload_n 3 d_Sheet_become_12 rfl rfl ?_
  refine r_bipush (40) d_Sheet_become_13 (by decide) ?_
  refine r_icmp_ge d_Sheet_become_15 (fun h15 => ?_) (fun h15 => ?_)
  · refine r_ret d_Sheet_become_31 rfl ?_
    have h1 := n_le (a := 40) h15 rfl rfl (by decide) (by omega)
    obtain rfl : i = 40 := by omega
    exact ⟨rfl, rfl⟩
  · have hl : i < 40 := n_lt (a := 40) h15 rfl rfl (by decide) (by omega)
    refine r_aload_n 0 d_Sheet_become_18 rfl rfl ?_
    refine r_getR fl_Sheet_18 (by first | with_reducible assumption | rfl) rfl d_Sheet_become_19 ?_
    refine r_iload_n 3 d_Sheet_become_22 rfl rfl ?_
    refine r_lconst 0 d_Sheet_become_23 rfl ?_
    refine r_lastN (by first | with_reducible assumption | rfl) (by first | with_reducible assumption | omega | decide | assumption) d_Sheet_become_24 ?_
    first | refine r_iincN 3 [_, _, _, _] d_Sheet_become_25 (by decide) rfl rfl ?_ | refine r_iinc 3 [_, _, _, _] (1) d_Sheet_become_25 (by decide) (by decide) rfl rfl ?_
    refine r_goto d_Sheet_become_28 ?_
    refine hk _ hl ?_
    rw [uL_rL, ← cutL_s]
set_option maxHeartbeats 400000 in
theorem c_Shelf_holdsRow {c : Nat} (hc : isSf c) (μ : Me) : CtI m_Shelf_holdsRow 0 [.ref c] μ (bz (¬ μ.1 c 1 = -1)) μ := by
  refine Ct.of (ls := [.ref c]) rfl (Nat.le_of_ble_eq_true rfl) rfl (fun X => ?_)
  have s0 : shp[c]? = some (.inl (8, [0, 0, 0])) := hc
  refine r_aload_n 0 d_Shelf_holdsRow_0 rfl rfl ?_
  refine r_getI fl_Shelf_15 (by first | with_reducible assumption | rfl) rfl d_Shelf_holdsRow_1 ?_
  refine r_iconst (-1) d_Shelf_holdsRow_4 rfl ?_
  refine r_icmp_eq d_Shelf_holdsRow_5 (fun h5 => ?_) (fun h5 => ?_)
  · refine r_iconst 0 d_Shelf_holdsRow_12 rfl ?_
    refine r_iret .boolean d_Shelf_holdsRow_13 rfl (by first | decide | assumption) ?_
    exact ⟨by simp_all [bz], rfl⟩
  · refine r_iconst 1 d_Shelf_holdsRow_8 rfl ?_
    refine r_goto d_Shelf_holdsRow_9 ?_
    refine r_iret .boolean d_Shelf_holdsRow_13 rfl (by first | decide | assumption) ?_
    exact ⟨by simp_all [bz], rfl⟩
def noM (μ : Me) (c : Nat) : Me := uI (uI (uI μ c 0 (-9)) c 1 (-1)) c 2 0
set_option maxHeartbeats 400000 in
theorem c_Shelf_holdNothing {c : Nat} (hc : isSf c) (μ : Me) : CtV m_Shelf_holdNothing 0 [.ref c] μ (noM μ c) := by
  refine Ct.of (ls := [.ref c]) rfl (Nat.le_of_ble_eq_true rfl) rfl (fun X => ?_)
  have s0 : shp[c]? = some (.inl (8, [0, 0, 0])) := hc
  refine r_aload_n 0 d_Shelf_holdNothing_0 rfl rfl ?_
  refine r_bipush (-9) d_Shelf_holdNothing_1 (by decide) ?_
  refine r_putI fp_Shelf_9 (by first | with_reducible assumption | rfl) rfl d_Shelf_holdNothing_3 ?_
  refine r_aload_n 0 d_Shelf_holdNothing_6 rfl rfl ?_
  refine r_iconst (-1) d_Shelf_holdNothing_7 rfl ?_
  refine r_putI fp_Shelf_15 (by first | with_reducible assumption | rfl) rfl d_Shelf_holdNothing_8 ?_
  refine r_aload_n 0 d_Shelf_holdNothing_11 rfl rfl ?_
  refine r_iconst 0 d_Shelf_holdNothing_12 rfl ?_
  refine r_putI fp_Shelf_18 (by first | with_reducible assumption | rfl) rfl d_Shelf_holdNothing_13 ?_
  refine r_ret d_Shelf_holdNothing_16 rfl ?_
  exact ⟨rfl, rfl⟩
set_option maxHeartbeats 400000 in
theorem c_Shelf_holdLearner {c : Nat} (hc : isSf c) (n : Int32) (μ : Me) : CtV m_Shelf_holdLearner 1 [.ref c, .int n] μ (uI (noM μ c) c 0 n) := by
  refine Ct.of (ls := [.ref c, .int n]) rfl (Nat.le_of_ble_eq_true rfl) rfl (fun X => ?_)
  have s0 : shp[c]? = some (.inl (8, [0, 0, 0])) := hc
  refine r_aload_n 0 d_Shelf_holdLearner_0 rfl rfl ?_
  refine r_callVv (c_Shelf_holdNothing hc _) lk_Shelf_21 (by first | with_reducible assumption | rfl) d_Shelf_holdLearner_1 rfl rfl (Nat.le_of_ble_eq_true rfl) (by decide) ?_
  refine r_aload_n 0 d_Shelf_holdLearner_4 rfl rfl ?_
  refine r_iload_n 1 d_Shelf_holdLearner_5 rfl rfl ?_
  refine r_putI fp_Shelf_9 (by first | with_reducible assumption | rfl) rfl d_Shelf_holdLearner_6 ?_
  refine r_ret d_Shelf_holdLearner_9 rfl ?_
  exact ⟨rfl, rfl⟩
set_option maxHeartbeats 400000 in
theorem c_Shelf_holdRow {c s : Nat} (hc : isSf c) (hs : isSh s) (hn : s ≠ c) (μ : Me) : CtV m_Shelf_holdRow 0 [.ref c, .ref s] μ (uI (uI (uI μ c 0 (-9)) c 1 (μ.1 s 0)) c 2 (μ.1 s 1)) := by
  refine Ct.of (ls := [.ref c, .ref s]) rfl (Nat.le_of_ble_eq_true rfl) rfl (fun X => ?_)
  have s0 : shp[c]? = some (.inl (8, [0, 0, 0])) := hc
  obtain ⟨t0, t1⟩ := hs
  refine r_aload_n 0 d_Shelf_holdRow_0 rfl rfl ?_
  refine r_bipush (-9) d_Shelf_holdRow_1 (by decide) ?_
  refine r_putI fp_Shelf_9 (by first | with_reducible assumption | rfl) rfl d_Shelf_holdRow_3 ?_
  refine r_aload_n 0 d_Shelf_holdRow_6 rfl rfl ?_
  refine r_aload_n 1 d_Shelf_holdRow_7 rfl rfl ?_
  refine r_getI fl_Shelf_24 (by first | with_reducible assumption | rfl) rfl d_Shelf_holdRow_8 ?_
  refine r_putI fp_Shelf_15 (by first | with_reducible assumption | rfl) rfl d_Shelf_holdRow_11 ?_
  refine r_aload_n 0 d_Shelf_holdRow_14 rfl rfl ?_
  refine r_aload_n 1 d_Shelf_holdRow_15 rfl rfl ?_
  refine r_getI fl_Shelf_27 (by first | with_reducible assumption | rfl) rfl d_Shelf_holdRow_16 ?_
  refine r_putI fp_Shelf_18 (by first | with_reducible assumption | rfl) rfl d_Shelf_holdRow_19 ?_
  refine r_ret d_Shelf_holdRow_22 rfl ?_
  exact ⟨rfl, by rw [uI_ne hn, uI_ne hn, uI_ne hn]⟩
set_option maxHeartbeats 400000 in
theorem c_Doer_clear (μ : Me) : CtV m_Doer_clear 0 [.ref 68] μ (uI (uI μ 68 5 0) 68 3 0) := by
  refine Ct.of (ls := [.ref 68]) rfl (Nat.le_of_ble_eq_true rfl) rfl (fun X => ?_)
  refine r_aload_n 0 d_Doer_clear_0 rfl rfl ?_
  refine r_iconst 0 d_Doer_clear_1 rfl ?_
  refine r_putI fp_Doer_29 (by first | with_reducible assumption | rfl) rfl d_Doer_clear_2 ?_
  refine r_aload_n 0 d_Doer_clear_5 rfl rfl ?_
  refine r_iconst 0 d_Doer_clear_6 rfl ?_
  refine r_putZ fp_Doer_21 (by first | with_reducible assumption | rfl) rfl (by first | exact Or.inl rfl | exact Or.inr rfl | assumption) d_Doer_clear_7 ?_
  refine r_ret d_Doer_clear_10 rfl ?_
  exact ⟨rfl, rfl⟩
set_option maxHeartbeats 400000 in
theorem c_Doer_become (k n a : Int32) (μ : Me) : CtV m_Doer_become 0 [.ref 68, .int k, .int n, .int a] μ (uI (uI (uI μ 68 0 k) 68 1 n) 68 2 a) := by
  refine Ct.of (ls := [.ref 68, .int k, .int n, .int a]) rfl (Nat.le_of_ble_eq_true rfl) rfl (fun X => ?_)
  refine r_aload_n 0 d_Doer_become_0 rfl rfl ?_
  refine r_iload_n 1 d_Doer_become_1 rfl rfl ?_
  refine r_putI fp_Doer_9 (by first | with_reducible assumption | rfl) rfl d_Doer_become_2 ?_
  refine r_aload_n 0 d_Doer_become_5 rfl rfl ?_
  refine r_iload_n 2 d_Doer_become_6 rfl rfl ?_
  refine r_putI fp_Doer_15 (by first | with_reducible assumption | rfl) rfl d_Doer_become_7 ?_
  refine r_aload_n 0 d_Doer_become_10 rfl rfl ?_
  refine r_iload_n 3 d_Doer_become_11 rfl rfl ?_
  refine r_putI fp_Doer_18 (by first | with_reducible assumption | rfl) rfl d_Doer_become_12 ?_
  refine r_ret d_Doer_become_15 rfl ?_
  exact ⟨rfl, rfl⟩
def bodyS (w : Int32) (k : Nat) : Int32 := if w = 0 then (sta 4).getD k 0 else if w = 1 then (sta 5).getD k 0 else if w = 2 then (sta 6).getD k 0 else (sta 7).getD k 0
set_option maxHeartbeats 400000 in
theorem c_Doer_bodyOf (w : Int32) (k : Nat) (hk : k < 6) (μ : Me) (hm : μ.1 68 0 = nI k) : CtI m_Doer_bodyOf 0 [.ref 68, .int w] μ (bodyS w k) μ := by
  refine Ct.of (ls := [.ref 68, .int w]) rfl (Nat.le_of_ble_eq_true rfl) rfl (fun X => ?_)
  refine r_iload_n 1 d_Doer_bodyOf_0 rfl rfl ?_
  refine r_ts d_Doer_bodyOf_1 (List.forall_mem_cons.mpr ⟨fun h1 => ?_, List.forall_mem_cons.mpr ⟨fun h1 => ?_, List.forall_mem_cons.mpr ⟨fun h1 => ?_, fun _ h => absurd h List.not_mem_nil⟩⟩⟩) (fun h1 => ?_)
  · refine r_getsN 4 (by decide) fn_Doer_32 d_Doer_bodyOf_28 ?_
    refine r_aload_n 0 d_Doer_bodyOf_31 rfl rfl ?_
    refine r_getI fl_Doer_9 (by first | with_reducible assumption | rfl) rfl d_Doer_bodyOf_32 ?_
    rw [hm]
    refine r_taldN (t := 4) (by decide) (by exact hk) d_Doer_bodyOf_35 ?_
    refine r_iret .int d_Doer_bodyOf_36 rfl rfl ?_
    exact ⟨by simp_all [bodyS], rfl⟩
  · refine r_getsN 5 (by decide) fn_Doer_35 d_Doer_bodyOf_37 ?_
    refine r_aload_n 0 d_Doer_bodyOf_40 rfl rfl ?_
    refine r_getI fl_Doer_9 (by first | with_reducible assumption | rfl) rfl d_Doer_bodyOf_41 ?_
    rw [hm]
    refine r_taldN (t := 5) (by decide) (by exact hk) d_Doer_bodyOf_44 ?_
    refine r_iret .int d_Doer_bodyOf_45 rfl rfl ?_
    exact ⟨by simp_all [bodyS], rfl⟩
  · refine r_getsN 6 (by decide) fn_Doer_38 d_Doer_bodyOf_46 ?_
    refine r_aload_n 0 d_Doer_bodyOf_49 rfl rfl ?_
    refine r_getI fl_Doer_9 (by first | with_reducible assumption | rfl) rfl d_Doer_bodyOf_50 ?_
    rw [hm]
    refine r_taldN (t := 6) (by decide) (by exact hk) d_Doer_bodyOf_53 ?_
    refine r_iret .int d_Doer_bodyOf_54 rfl rfl ?_
    exact ⟨by simp_all [bodyS], rfl⟩
  · refine r_getsN 7 (by decide) fn_Doer_41 d_Doer_bodyOf_55 ?_
    refine r_aload_n 0 d_Doer_bodyOf_58 rfl rfl ?_
    refine r_getI fl_Doer_9 (by first | with_reducible assumption | rfl) rfl d_Doer_bodyOf_59 ?_
    rw [hm]
    refine r_taldN (t := 7) (by decide) (by exact hk) d_Doer_bodyOf_62 ?_
    refine r_iret .int d_Doer_bodyOf_63 rfl rfl ?_
    exact ⟨by simp_all [bodyS], rfl⟩
set_option maxHeartbeats 400000 in
theorem c_Doer_begin (b : Int32) (m : Nat) (hm : m ≤ 30) (μ : Me) (h5 : μ.1 68 5 = nI m) : CtI m_Doer_begin 0 [.ref 68, .int b] μ (bz (μ.1 68 3 = 0)) (if μ.1 68 3 = 0 ∧ m < 30 then uI (uI μ 69 m b) 68 5 (nI (m + 1)) else μ) := by
  refine Ct.of (ls := [.ref 68, .int b]) rfl (Nat.le_of_ble_eq_true rfl) rfl (fun X => ?_)
  refine r_aload_n 0 d_Doer_begin_0 rfl rfl ?_
  refine r_getI fl_Doer_21 (by first | with_reducible assumption | rfl) rfl d_Doer_begin_1 ?_
  refine r_if_eq d_Doer_begin_4 (fun h4 => ?_) (fun h4 => ?_)
  · refine r_aload_n 0 d_Doer_begin_9 rfl rfl ?_
    refine r_getI fl_Doer_29 (by first | with_reducible assumption | rfl) rfl d_Doer_begin_10 ?_
    refine r_bipush (30) d_Doer_begin_13 (by decide) ?_
    refine r_icmp_ge d_Doer_begin_15 (fun h15 => ?_) (fun h15 => ?_)
    · refine r_iconst 1 d_Doer_begin_38 rfl ?_
      refine r_iret .boolean d_Doer_begin_39 rfl (by first | decide | assumption) ?_
      refine ⟨by simp [bz, h4], ?_⟩
      first
        | (have hl := n_le (a := 30) h15 rfl h5 (by decide) (by omega); rw [if_neg (by omega)])
        | (rw [if_pos ⟨h4, hl⟩, uI_ne (by decide), h5, nI_succ])
    · have hl : m < 30 := n_lt (a := 30) h15 rfl h5 (by decide) (by omega)
      refine r_aload_n 0 d_Doer_begin_18 rfl rfl ?_
      refine r_getR fl_Doer_25 (by first | with_reducible assumption | rfl) rfl d_Doer_begin_19 ?_
      refine r_aload_n 0 d_Doer_begin_22 rfl rfl ?_
      refine r_getI fl_Doer_29 (by first | with_reducible assumption | rfl) rfl d_Doer_begin_23 ?_
      rw [h5]
      refine r_iload_n 1 d_Doer_begin_26 rfl rfl ?_
      refine r_iastN (by first | with_reducible assumption | rfl) (by first | with_reducible assumption | omega | decide | assumption) d_Doer_begin_27 ?_
      refine r_aload_n 0 d_Doer_begin_28 rfl rfl ?_
      refine r_dup d_Doer_begin_29 rfl ?_
      refine r_getI fl_Doer_29 (by first | with_reducible assumption | rfl) rfl d_Doer_begin_30 ?_
      refine r_iconst 1 d_Doer_begin_33 rfl ?_
      refine r_iadd d_Doer_begin_34 ?_
      refine r_putI fp_Doer_29 (by first | with_reducible assumption | rfl) rfl d_Doer_begin_35 ?_
      refine r_iconst 1 d_Doer_begin_38 rfl ?_
      refine r_iret .boolean d_Doer_begin_39 rfl (by first | decide | assumption) ?_
      refine ⟨by simp [bz, h4], ?_⟩
      first
        | (have hl := n_le (a := 30) h15 rfl h5 (by decide) (by omega); rw [if_neg (by omega)])
        | (rw [if_pos ⟨h4, hl⟩, uI_ne (by decide), h5, nI_succ])
  · refine r_iconst 0 d_Doer_begin_7 rfl ?_
    refine r_iret .boolean d_Doer_begin_8 rfl (by first | decide | assumption) ?_
    exact ⟨by simp [bz, h4], by simp [h4]⟩
set_option maxHeartbeats 400000 in
theorem c_Doer_partEvenly (x : Int32) (μ : Me) : CtI m_Doer_partEvenly 0 [.ref 68, .int x] μ (if μ.1 68 2 - μ.1 68 1 = 0 then 0 else x / (μ.1 68 2 - μ.1 68 1)) (uI μ 68 3 (bz (μ.1 68 2 - μ.1 68 1 = 0))) := by
  refine Ct.of (ls := [.ref 68, .int x, flr]) rfl (Nat.le_of_ble_eq_true rfl) rfl (fun X => ?_)
  refine r_aload_n 0 d_Doer_partEvenly_0 rfl rfl ?_
  refine r_getI fl_Doer_18 (by first | with_reducible assumption | rfl) rfl d_Doer_partEvenly_1 ?_
  refine r_aload_n 0 d_Doer_partEvenly_4 rfl rfl ?_
  refine r_getI fl_Doer_15 (by first | with_reducible assumption | rfl) rfl d_Doer_partEvenly_5 ?_
  refine r_isub d_Doer_partEvenly_8 ?_
  refine r_istore_n 2 [_, _, _] d_Doer_partEvenly_9 rfl (by decide) rfl ?_
  refine r_aload_n 0 d_Doer_partEvenly_10 rfl rfl ?_
  refine r_iload_n 2 d_Doer_partEvenly_11 rfl rfl ?_
  refine r_if_ne d_Doer_partEvenly_12 (fun h12 => ?_) (fun h12 => ?_)
  · refine r_iconst 0 d_Doer_partEvenly_19 rfl ?_
    refine r_putZ fp_Doer_21 (by first | with_reducible assumption | rfl) rfl (by first | exact Or.inl rfl | exact Or.inr rfl | assumption) d_Doer_partEvenly_20 ?_
    refine r_iload_n 2 d_Doer_partEvenly_23 rfl rfl ?_
    refine r_if_ne d_Doer_partEvenly_24 (fun h24 => ?_) (fun h24 => absurd h24 h12)
    refine r_iload_n 1 d_Doer_partEvenly_31 rfl rfl ?_
    refine r_iload_n 2 d_Doer_partEvenly_32 rfl rfl ?_
    refine r_idiv d_Doer_partEvenly_33 h12 ?_
    refine r_iret .int d_Doer_partEvenly_34 rfl rfl ?_
    exact ⟨by simp [h12], by simp [h12, bz]⟩
  · refine r_iconst 1 d_Doer_partEvenly_15 rfl ?_
    refine r_goto d_Doer_partEvenly_16 ?_
    refine r_putZ fp_Doer_21 (by first | with_reducible assumption | rfl) rfl (by first | exact Or.inl rfl | exact Or.inr rfl | assumption) d_Doer_partEvenly_20 ?_
    refine r_iload_n 2 d_Doer_partEvenly_23 rfl rfl ?_
    refine r_if_ne d_Doer_partEvenly_24 (fun h24 => absurd h12 h24) (fun h24 => ?_)
    refine r_iconst 0 d_Doer_partEvenly_27 rfl ?_
    refine r_goto d_Doer_partEvenly_28 ?_
    refine r_iret .int d_Doer_partEvenly_34 rfl rfl ?_
    exact ⟨by simp [h12], by simp [h12, bz]⟩
