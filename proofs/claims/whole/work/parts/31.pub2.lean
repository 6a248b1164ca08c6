def isPr (p : Int32) : Prop := 0 ≤ p ∧ p < 36
def isT (t : Int32) : Prop := 1 ≤ t ∧ t ≤ 9
def pairOfS (p w : Int32) : Int32 := if 0 ≤ p ∧ p < 36 then (if w = 0 then lsI p.toNatClampNeg else if w = 1 then grI p.toNatClampNeg else if w = 2 then prodS p.toNatClampNeg else if w = 3 then firstS p.toNatClampNeg else -1) else -1
set_option maxHeartbeats 400000 in
theorem c_S_pairOf (p w : Int32) (μ : Me) : CtI m_S_pairOf 1 [.ref 0, .int p, .int w] μ (pairOfS p w) μ := by
  refine Ct.of (ls := [.ref 0, .int p, .int w]) rfl (Nat.le_of_ble_eq_true rfl) rfl (fun X => ?_)
  refine r_iload_n 1 d_S_pairOf_0 rfl rfl ?_
  refine r_callSi (c_S_isPair _ _) lk_S_144 d_S_pairOf_1 rfl rfl (Nat.le_of_ble_eq_true rfl) (by decide) ?_
  refine r_if_ne d_S_pairOf_4 (fun h4 => ?_) (fun h4 => ?_)
  · have hP := bz_p h4
    obtain ⟨zq, zhq, rfl⟩ := pr_yes hP
    have hcp := cl36 zhq (show 36 ≤ 1000 by decide)
    refine r_iload_n 2 d_S_pairOf_9 rfl rfl ?_
    refine r_ts d_S_pairOf_10 (List.forall_mem_cons.mpr ⟨fun h10 => ?_, List.forall_mem_cons.mpr ⟨fun h10 => ?_, List.forall_mem_cons.mpr ⟨fun h10 => ?_, List.forall_mem_cons.mpr ⟨fun h10 => ?_, fun _ h => absurd h List.not_mem_nil⟩⟩⟩⟩) (fun h10 => ?_)
    · refine r_gets 0 (by decide) fs_S_148 d_S_pairOf_40 ?_
      refine r_iload_n 1 d_S_pairOf_43 rfl rfl ?_
      refine r_taldN (t := 0) (by decide) (by first | with_reducible assumption | omega | decide | assumption) d_S_pairOf_44 ?_
      refine r_iret .int d_S_pairOf_45 rfl rfl ?_
      refine ⟨?_, rfl⟩
      rw [pairOfS, if_pos hP, hcp]
      simp_all [lsI, grI]
    · refine r_gets 1 (by decide) fs_S_151 d_S_pairOf_46 ?_
      refine r_iload_n 1 d_S_pairOf_49 rfl rfl ?_
      refine r_taldN (t := 1) (by decide) (by first | with_reducible assumption | omega | decide | assumption) d_S_pairOf_50 ?_
      refine r_iret .int d_S_pairOf_51 rfl rfl ?_
      refine ⟨?_, rfl⟩
      rw [pairOfS, if_pos hP, hcp]
      simp_all [lsI, grI]
    · refine r_iload_n 1 d_S_pairOf_52 rfl rfl ?_
      refine r_callSi (c_S_product zq zhq _) lk_S_154 d_S_pairOf_53 rfl rfl (Nat.le_of_ble_eq_true rfl) (by decide) ?_
      refine r_iret .int d_S_pairOf_56 rfl rfl ?_
      refine ⟨?_, rfl⟩
      rw [pairOfS, if_pos hP, hcp]
      simp_all [lsI, grI]
    · refine r_iload_n 1 d_S_pairOf_57 rfl rfl ?_
      refine r_callSi (c_S_firmAtFirst zq zhq _) lk_S_158 d_S_pairOf_58 rfl rfl (Nat.le_of_ble_eq_true rfl) (by decide) ?_
      refine r_iret .int d_S_pairOf_61 rfl rfl ?_
      refine ⟨?_, rfl⟩
      rw [pairOfS, if_pos hP, hcp]
      simp_all [lsI, grI]
    · refine r_iconst (-1) d_S_pairOf_62 rfl ?_
      refine r_iret .int d_S_pairOf_63 rfl rfl ?_
      refine ⟨?_, rfl⟩
      rw [pairOfS, if_pos hP, hcp]
      simp_all [lsI, grI]
  · refine r_iconst (-1) d_S_pairOf_7 rfl ?_
    refine r_iret .int d_S_pairOf_8 rfl rfl ?_
    exact ⟨by rw [pairOfS, if_neg (bz_np h4)], rfl⟩
/-- the set of those tied, by the sides in their order -/
def tiedF (p : Nat) : Nat → Int64
  | 0 => 0
  | i + 1 => if nextS p (nI i) < 0 then tiedF p i else tiedF p i ||| 1 <<< ((nextS p (nI i)).toInt64 &&& 63)
set_option maxHeartbeats 400000 in
theorem c_S_tied_no (p : Int32) (hp : ¬ (0 ≤ p ∧ p < 36)) (μ : Me) : CtL m_S_tied 3 [.ref 0, .int p] μ (-1) μ := by
  refine Ct.of (ls := [.ref 0, .int p, flr, flr, flr, flr]) rfl (Nat.le_of_ble_eq_true rfl) rfl (fun X => ?_)
  refine r_iload_n 1 d_S_tied_0 rfl rfl ?_
  refine r_callSi (c_S_isPair _ _) lk_S_144 d_S_tied_1 rfl rfl (Nat.le_of_ble_eq_true rfl) (by decide) ?_
  refine r_if_ne d_S_tied_4 (fun h4 => absurd (bz_0.mpr hp) h4) (fun h4 => ?_)
  refine r_ldc2 kc_S_161 d_S_tied_7 ?_
  refine r_lret d_S_tied_10 rfl ?_
  exact ⟨rfl, rfl⟩
set_option maxHeartbeats 400000 in
theorem c_S_tied (p : Nat) (hp : p < 36) (μ : Me) : CtL m_S_tied 3 [.ref 0, .int (nI p)] μ (tiedF p 4) μ := by
  refine Ct.of (ls := [.ref 0, .int (nI p), flr, flr, flr, flr]) rfl (Nat.le_of_ble_eq_true rfl) rfl (fun X => ?_)
  refine r_iload_n 1 d_S_tied_0 rfl rfl ?_
  refine r_callSi (c_S_isPair _ _) lk_S_144 d_S_tied_1 rfl rfl (Nat.le_of_ble_eq_true rfl) (by decide) ?_
  refine r_if_ne d_S_tied_4 (fun h4 => ?_) (fun h4 => absurd h4 (fun z => bz_np z ⟨nI_pos' (by omega), nI_lt hp (by decide)⟩))
  refine r_lconst 0 d_S_tied_11 rfl ?_
  refine r_lstore_n 2 [_, _, _, _, _, _] d_S_tied_12 rfl (by decide) rfl ?_
  refine r_iconst 0 d_S_tied_13 rfl ?_
  refine r_istore 4 [_, _, _, _, _, _] d_S_tied_14 (by decide) rfl ?_
  have lp := lpN 4 (fun i (w : Int64) => ∀ z1 : Value, Wa X m_S_tied 3 16 [.ref 0, .int (nI p), .long w, flr, .int (nI i), z1] [] μ (fun r μ' => r = some (.long (tiedF p 4)) ∧ μ' = μ)) (fun i w => w = tiedF p i) ?_ 0 0 (Nat.zero_le _) rfl
  · exact lp _
  · intro i w hi hw hk z1
    refine r_iload 4 d_S_tied_16 rfl ?_
    refine r_iconst 4 d_S_tied_18 rfl ?_
    refine r_icmp_ge d_S_tied_19 (fun h19 => ?_) (fun h19 => ?_)
    · refine r_lload_n 2 d_S_tied_48 rfl rfl ?_
      refine r_lret d_S_tied_49 rfl ?_
      have hge := n_le (a := 4) h19 rfl rfl (by decide) (by omega)
      obtain rfl : i = 4 := by omega
      exact ⟨by rw [hw], rfl⟩
    · have hl : i < 4 := n_lt (a := 4) h19 rfl rfl (by decide) (by omega)
      refine r_iload_n 1 d_S_tied_22 rfl rfl ?_
      refine r_iload 4 d_S_tied_23 rfl ?_
      refine r_callSi (c_S_nextDoor p hp _ _) lk_S_163 d_S_tied_25 rfl rfl (Nat.le_of_ble_eq_true rfl) (by decide) ?_
      refine r_istore 5 [_, _, _, _, _, _] d_S_tied_28 (by decide) rfl ?_
      refine r_iload 5 d_S_tied_30 rfl ?_
      refine r_if_lt d_S_tied_32 (fun h32 => ?_) (fun h32 => ?_)
      · first | refine r_iincN 4 [_, _, _, _, _, _] d_S_tied_42 (by decide) rfl rfl ?_ | refine r_iinc 4 [_, _, _, _, _, _] (1) d_S_tied_42 (by decide) (by decide) rfl rfl ?_
        refine r_goto d_S_tied_45 ?_
        refine hk _ hl ?_ _
        rw [tiedF, hw]
        first
          | exact (if_pos h32).symm
          | exact (if_neg h32).symm
      · refine r_lload_n 2 d_S_tied_35 rfl rfl ?_
        refine r_lconst 1 d_S_tied_36 rfl ?_
        refine r_iload 5 d_S_tied_37 rfl ?_
        refine r_lshl d_S_tied_39 ?_
        refine r_lor d_S_tied_40 ?_
        refine r_lstore_n 2 [_, _, _, _, _, _] d_S_tied_41 rfl (by decide) rfl ?_
        first | refine r_iincN 4 [_, _, _, _, _, _] d_S_tied_42 (by decide) rfl rfl ?_ | refine r_iinc 4 [_, _, _, _, _, _] (1) d_S_tied_42 (by decide) (by decide) rfl rfl ?_
        refine r_goto d_S_tied_45 ?_
        refine hk _ hl ?_ _
        rw [tiedF, hw]
        first
          | exact (if_pos h32).symm
          | exact (if_neg h32).symm
set_option maxHeartbeats 400000 in
theorem c_S_day (μ : Me) : CtI m_S_day 0 [.ref 0] μ (μ.1 1 3) μ := by
  refine Ct.of (ls := [.ref 0]) rfl (Nat.le_of_ble_eq_true rfl) rfl (fun X => ?_)
  refine r_aload_n 0 d_S_day_0 rfl rfl ?_
  refine r_getR fl_S_12 (by first | with_reducible assumption | rfl) rfl d_S_day_1 ?_
  refine r_getI fl_S_187 (by first | with_reducible assumption | rfl) rfl d_S_day_4 ?_
  refine r_iret .int d_S_day_7 rfl rfl ?_
  exact ⟨rfl, rfl⟩
set_option maxHeartbeats 400000 in
theorem c_S_seed (v : Int32) (μ : Me) : CtI m_S_seed 0 [.ref 0, .int v] μ (μ.1 1 4) (uI μ 1 4 v) := by
  refine Ct.of (ls := [.ref 0, .int v, flr]) rfl (Nat.le_of_ble_eq_true rfl) rfl (fun X => ?_)
  refine r_aload_n 0 d_S_seed_0 rfl rfl ?_
  refine r_getR fl_S_12 (by first | with_reducible assumption | rfl) rfl d_S_seed_1 ?_
  refine r_getI fl_S_290 (by first | with_reducible assumption | rfl) rfl d_S_seed_4 ?_
  refine r_istore_n 2 [_, _, _] d_S_seed_7 rfl (by decide) rfl ?_
  refine r_aload_n 0 d_S_seed_8 rfl rfl ?_
  refine r_getR fl_S_12 (by first | with_reducible assumption | rfl) rfl d_S_seed_9 ?_
  refine r_iload_n 1 d_S_seed_12 rfl rfl ?_
  refine r_putI fp_S_290 (by first | with_reducible assumption | rfl) rfl d_S_seed_13 ?_
  refine r_iload_n 2 d_S_seed_16 rfl rfl ?_
  refine r_iret .int d_S_seed_17 rfl rfl ?_
  exact ⟨rfl, rfl⟩
def lmS (w : Nat) : Int32 := (sta 2).getD w 0
set_option maxHeartbeats 400000 in
theorem c_S_set_no (w v : Int32) (hw : ¬ ((0 ≤ w ∧ w < 3) ∧ 0 ≤ v ∧ v ≤ lmS w.toNatClampNeg)) (μ : Me) : CtI m_S_set 1 [.ref 0, .int w, .int v] μ (-1) μ := by
  refine Ct.of (ls := [.ref 0, .int w, .int v, flr]) rfl (Nat.le_of_ble_eq_true rfl) rfl (fun X => ?_)
  refine r_iload_n 1 d_S_set_0 rfl rfl ?_
  refine r_if_lt d_S_set_1 (fun h1 => ?_) (fun h1 => ?_)
  · refine r_iconst (-1) d_S_set_21 rfl ?_
    refine r_iret .int d_S_set_22 rfl rfl ?_
    exact ⟨rfl, rfl⟩
  · refine r_iload_n 1 d_S_set_4 rfl rfl ?_
    refine r_iconst 3 d_S_set_5 rfl ?_
    refine r_icmp_ge d_S_set_6 (fun h6 => ?_) (fun h6 => ?_)
    · refine r_iconst (-1) d_S_set_21 rfl ?_
      refine r_iret .int d_S_set_22 rfl rfl ?_
      exact ⟨rfl, rfl⟩
    · obtain ⟨zq, zhq, rfl⟩ : ∃ j, j < 3 ∧ w = nI j := by
        rcases pk_ix w (n := 3) (by decide) with z | z | z
        · exact absurd z h1
        · exact absurd z h6
        · exact z
      have hcp := cl36 zhq (show 3 ≤ 1000 by decide)
      refine r_iload_n 2 d_S_set_9 rfl rfl ?_
      refine r_gets 2 (by decide) fs_S_181 d_S_set_10 ?_
      refine r_iload_n 1 d_S_set_13 rfl rfl ?_
      refine r_taldN (t := 2) (by decide) (by first | with_reducible assumption | omega | decide | assumption) d_S_set_14 ?_
      refine r_callSi (c_S_isWithin _ _ _) lk_S_118 d_S_set_15 rfl rfl (Nat.le_of_ble_eq_true rfl) (by decide) ?_
      refine r_if_ne d_S_set_18 (fun h18 => absurd (bz_0.mpr (fun z => hw ⟨⟨Int32.not_lt.mp h1, Int32.not_le.mp h6⟩, z.1, by rw [hcp]; exact z.2⟩)) h18) (fun h18 => ?_)
      refine r_iconst (-1) d_S_set_21 rfl ?_
      refine r_iret .int d_S_set_22 rfl rfl ?_
      exact ⟨rfl, rfl⟩
set_option maxHeartbeats 400000 in
theorem c_S_set (q : Nat) (hq : q < 3) (v : Int32) (hv : 0 ≤ v ∧ v ≤ lmS q) (μ : Me) : CtI m_S_set 1 [.ref 0, .int (nI q), .int v] μ (μ.1 3 q) (uI μ 3 q v) := by
  refine Ct.of (ls := [.ref 0, .int (nI q), .int v, flr]) rfl (Nat.le_of_ble_eq_true rfl) rfl (fun X => ?_)
  refine r_iload_n 1 d_S_set_0 rfl rfl ?_
  refine r_if_lt d_S_set_1 (fun h1 => absurd h1 (nI_pos (by omega))) (fun h1 => ?_)
  refine r_iload_n 1 d_S_set_4 rfl rfl ?_
  refine r_iconst 3 d_S_set_5 rfl ?_
  refine r_icmp_ge d_S_set_6 (fun h6 => absurd h6 (nI_ge hq (by decide))) (fun h6 => ?_)
  refine r_iload_n 2 d_S_set_9 rfl rfl ?_
  refine r_gets 2 (by decide) fs_S_181 d_S_set_10 ?_
  refine r_iload_n 1 d_S_set_13 rfl rfl ?_
  refine r_taldN (t := 2) (by decide) (by first | with_reducible assumption | omega | decide | assumption) d_S_set_14 ?_
  refine r_callSi (c_S_isWithin _ _ _) lk_S_118 d_S_set_15 rfl rfl (Nat.le_of_ble_eq_true rfl) (by decide) ?_
  refine r_if_ne d_S_set_18 (fun h18 => ?_) (fun h18 => absurd h18 (fun z => bz_np z hv))
  refine r_aload_n 0 d_S_set_23 rfl rfl ?_
  refine r_getR fl_S_12 (by first | with_reducible assumption | rfl) rfl d_S_set_24 ?_
  refine r_getR fl_S_184 (by first | with_reducible assumption | rfl) rfl d_S_set_27 ?_
  refine r_iload_n 1 d_S_set_30 rfl rfl ?_
  refine r_ialdN (by first | with_reducible assumption | rfl) (by first | with_reducible assumption | omega | decide | assumption) d_S_set_31 ?_
  refine r_istore_n 3 [_, _, _, _] d_S_set_32 rfl (by decide) rfl ?_
  refine r_aload_n 0 d_S_set_33 rfl rfl ?_
  refine r_getR fl_S_12 (by first | with_reducible assumption | rfl) rfl d_S_set_34 ?_
  refine r_getR fl_S_184 (by first | with_reducible assumption | rfl) rfl d_S_set_37 ?_
  refine r_iload_n 1 d_S_set_40 rfl rfl ?_
  refine r_iload_n 2 d_S_set_41 rfl rfl ?_
  refine r_iastN (by first | with_reducible assumption | rfl) (by first | with_reducible assumption | omega | decide | assumption) d_S_set_42 ?_
  refine r_iload_n 3 d_S_set_43 rfl rfl ?_
  refine r_iret .int d_S_set_44 rfl rfl ?_
  exact ⟨rfl, rfl⟩

def ansS (μ : Me) (l p t : Int32) : Int32 × Int32 × Int32 × Int32 := findS (μ.1 (lcl l) 0) (μ.1 (lcl l) 1) (μ.1 (lcl l + 1)) p.toNatClampNeg t (μ.1 3 1) (μ.1 3 2)
def wouldP (μ : Me) (l p t w : Int32) : Prop := (0 ≤ l ∧ l < μ.1 1 1) ∧ (0 ≤ p ∧ p < 36) ∧ (1 ≤ t ∧ t ≤ 9) ∧ (0 ≤ w ∧ w ≤ 3)
def pick4 (q : Int32 × Int32 × Int32 × Int32) (w : Int32) : Int32 := if w = 0 then q.1 else if w = 1 then q.2.1 else if w = 2 then q.2.2.1 else q.2.2.2
theorem ansM_0 {μ : Me} {q : Int32 × Int32 × Int32 × Int32} : (ansM μ q).1 57 0 = q.1 := by simp [ansM, uI, rI, upd]
theorem ansM_1 {μ : Me} {q : Int32 × Int32 × Int32 × Int32} : (ansM μ q).1 57 1 = q.2.1 := by simp [ansM, uI, rI, upd]
theorem ansM_2 {μ : Me} {q : Int32 × Int32 × Int32 × Int32} : (ansM μ q).1 57 2 = q.2.2.1 := by simp [ansM, uI, rI, upd]
theorem ansM_3 {μ : Me} {q : Int32 × Int32 × Int32 × Int32} : (ansM μ q).1 57 3 = q.2.2.2 := by simp [ansM, uI, rI, upd]
theorem ansM_ne {μ : Me} {q : Int32 × Int32 × Int32 × Int32} {c : Nat} (h : c ≠ 57) : (ansM μ q).1 c = μ.1 c := by simp [ansM, uI, rI, h]
theorem ansM_L {μ : Me} {q : Int32 × Int32 × Int32 × Int32} : (ansM μ q).2 = μ.2 := rfl
set_option maxHeartbeats 400000 in
theorem c_S_would {m : Nat} (hm : m ≤ 4) (l p t w : Int32) (μ : Me) (hct : μ.1 1 1 = nI m) : Ct m_S_would 5 [.ref 0, .int l, .int p, .int t, .int w] μ (fun r μ' => (wouldP μ l p t w → r = some (.int (pick4 (ansS μ l p t) w)) ∧ μ' = ansM μ (ansS μ l p t)) ∧ (¬ wouldP μ l p t w → r = some (.int (-1)) ∧ μ' = μ)) := by
  refine Ct.of (ls := [.ref 0, .int l, .int p, .int t, .int w, flr]) rfl (Nat.le_of_ble_eq_true rfl) rfl (fun X => ?_)
  by_cases hG : 0 ≤ l ∧ l < nI m
  · obtain ⟨j, hj, rfl⟩ := lr_yes hm hG
    have hj4 : j < 4 := by omega
    have hL := isL_s j hj4
    obtain ⟨s9, s0, s1, s2, s3⟩ := id hL
    have hcl := lcl_n hj4
    refine r_aload_n 0 d_S_would_0 rfl rfl ?_
    refine r_getR fl_S_12 (by first | with_reducible assumption | rfl) rfl d_S_would_1 ?_
    refine r_iload_n 1 d_S_would_4 rfl rfl ?_
    refine r_callVa (c_School_learnerAt_yes j m hj hm _ hct) lk_S_127 (by first | with_reducible assumption | rfl) d_S_would_5 rfl rfl (Nat.le_of_ble_eq_true rfl) (by decide) ?_
    refine r_astore 5 [_, _, _, _, _, _] d_S_would_8 (by decide) rfl ?_
    refine r_aload 5 d_S_would_10 rfl ?_
    refine r_ifnull d_S_would_12 ?_
    refine r_iload_n 2 d_S_would_15 rfl rfl ?_
    refine r_callSi (c_S_isPair _ _) lk_S_144 d_S_would_16 rfl rfl (Nat.le_of_ble_eq_true rfl) (by decide) ?_
    refine r_if_eq d_S_would_19 (fun h19 => ?_) (fun h19 => ?_)
    · refine r_iconst (-1) d_S_would_38 rfl ?_
      refine r_iret .int d_S_would_39 rfl rfl ?_
      refine ⟨fun z => ?_, fun _ => ⟨rfl, rfl⟩⟩
      first
        | exact absurd z.2.1 (bz_np h19)
        | exact absurd z.2.2.1 (bz_np h26)
        | exact absurd z.2.2.2 (bz_np h35)
    · refine r_iload_n 3 d_S_would_22 rfl rfl ?_
      refine r_callSi (c_S_isSeconds _ _) lk_S_190 d_S_would_23 rfl rfl (Nat.le_of_ble_eq_true rfl) (by decide) ?_
      refine r_if_eq d_S_would_26 (fun h26 => ?_) (fun h26 => ?_)
      · refine r_iconst (-1) d_S_would_38 rfl ?_
        refine r_iret .int d_S_would_39 rfl rfl ?_
        refine ⟨fun z => ?_, fun _ => ⟨rfl, rfl⟩⟩
        first
          | exact absurd z.2.1 (bz_np h19)
          | exact absurd z.2.2.1 (bz_np h26)
          | exact absurd z.2.2.2 (bz_np h35)
      · refine r_iload 4 d_S_would_29 rfl ?_
        refine r_iconst 3 d_S_would_31 rfl ?_
        refine r_callSi (c_S_isWithin _ _ _) lk_S_118 d_S_would_32 rfl rfl (Nat.le_of_ble_eq_true rfl) (by decide) ?_
        refine r_if_ne d_S_would_35 (fun h35 => ?_) (fun h35 => ?_)
        · have hP := bz_p h19
          have hT := bz_p h26
          have hW := bz_p h35
          obtain ⟨zq, zhq, rfl⟩ := pr_yes hP
          have hcp := cl36 zhq (show 36 ≤ 1000 by decide)
          refine r_aload_n 0 d_S_would_40 rfl rfl ?_
          refine r_getR fl_S_47 (by first | with_reducible assumption | rfl) rfl d_S_would_41 ?_
          refine r_aload 5 d_S_would_44 rfl ?_
          refine r_iload_n 2 d_S_would_46 rfl rfl ?_
          refine r_iload_n 3 d_S_would_47 rfl rfl ?_
          refine r_aload_n 0 d_S_would_48 rfl rfl ?_
          refine r_getR fl_S_12 (by first | with_reducible assumption | rfl) rfl d_S_would_49 ?_
          refine r_getR fl_S_184 (by first | with_reducible assumption | rfl) rfl d_S_would_52 ?_
          refine r_callVv (c_Answer_find hL zhq rfl _ _) lk_S_196 (by first | with_reducible assumption | rfl) d_S_would_55 rfl rfl (Nat.le_of_ble_eq_true rfl) (by decide) ?_
          refine r_iload 4 d_S_would_58 rfl ?_
          refine r_ts d_S_would_60 (List.forall_mem_cons.mpr ⟨fun h60 => ?_, List.forall_mem_cons.mpr ⟨fun h60 => ?_, List.forall_mem_cons.mpr ⟨fun h60 => ?_, fun _ h => absurd h List.not_mem_nil⟩⟩⟩) (fun h60 => ?_)
          · refine r_aload_n 0 d_S_would_88 rfl rfl ?_
            refine r_getR fl_S_47 (by first | with_reducible assumption | rfl) rfl d_S_would_89 ?_
            refine r_getI fl_S_200 (by first | with_reducible assumption | rfl) rfl d_S_would_92 ?_
            refine r_iret .int d_S_would_95 rfl rfl ?_
            refine ⟨fun _ => ⟨?_, by rw [ansS, hcl, hcp]⟩, fun z => absurd ⟨by rw [hct]; exact hG, hP, hT, hW⟩ z⟩
            rw [ansM_0, ansS, hcl, hcp]
            simp_all [pick4]
          · refine r_aload_n 0 d_S_would_96 rfl rfl ?_
            refine r_getR fl_S_47 (by first | with_reducible assumption | rfl) rfl d_S_would_97 ?_
            refine r_getI fl_S_203 (by first | with_reducible assumption | rfl) rfl d_S_would_100 ?_
            refine r_iret .int d_S_would_103 rfl rfl ?_
            refine ⟨fun _ => ⟨?_, by rw [ansS, hcl, hcp]⟩, fun z => absurd ⟨by rw [hct]; exact hG, hP, hT, hW⟩ z⟩
            rw [ansM_1, ansS, hcl, hcp]
            simp_all [pick4]
          · refine r_aload_n 0 d_S_would_104 rfl rfl ?_
            refine r_getR fl_S_47 (by first | with_reducible assumption | rfl) rfl d_S_would_105 ?_
            refine r_getI fl_S_206 (by first | with_reducible assumption | rfl) rfl d_S_would_108 ?_
            refine r_iret .int d_S_would_111 rfl rfl ?_
            refine ⟨fun _ => ⟨?_, by rw [ansS, hcl, hcp]⟩, fun z => absurd ⟨by rw [hct]; exact hG, hP, hT, hW⟩ z⟩
            rw [ansM_2, ansS, hcl, hcp]
            simp_all [pick4]
          · refine r_aload_n 0 d_S_would_112 rfl rfl ?_
            refine r_getR fl_S_47 (by first | with_reducible assumption | rfl) rfl d_S_would_113 ?_
            refine r_getI fl_S_209 (by first | with_reducible assumption | rfl) rfl d_S_would_116 ?_
            refine r_iret .int d_S_would_119 rfl rfl ?_
            refine ⟨fun _ => ⟨?_, by rw [ansS, hcl, hcp]⟩, fun z => absurd ⟨by rw [hct]; exact hG, hP, hT, hW⟩ z⟩
            rw [ansM_3, ansS, hcl, hcp]
            simp_all [pick4]
        · refine r_iconst (-1) d_S_would_38 rfl ?_
          refine r_iret .int d_S_would_39 rfl rfl ?_
          refine ⟨fun z => ?_, fun _ => ⟨rfl, rfl⟩⟩
          first
            | exact absurd z.2.1 (bz_np h19)
            | exact absurd z.2.2.1 (bz_np h26)
            | exact absurd z.2.2.2 (bz_np h35)
  · have hno := lr_no hG
    rw [← hct] at hno
    refine r_aload_n 0 d_S_would_0 rfl rfl ?_
    refine r_getR fl_S_12 (by first | with_reducible assumption | rfl) rfl d_S_would_1 ?_
    refine r_iload_n 1 d_S_would_4 rfl rfl ?_
    refine r_callVa (c_School_learnerAt_no _ _ hno) lk_S_127 (by first | with_reducible assumption | rfl) d_S_would_5 rfl rfl (Nat.le_of_ble_eq_true rfl) (by decide) ?_
    refine r_astoreN 5 [_, _, _, _, _, _] d_S_would_8 (by decide) rfl ?_
    refine r_aloadN 5 d_S_would_10 rfl ?_
    refine r_ifnullN d_S_would_12 ?_
    refine r_iconst (-1) d_S_would_38 rfl ?_
    refine r_iret .int d_S_would_39 rfl rfl ?_
    exact ⟨fun z => absurd z.1 (by rw [hct]; exact hG), fun _ => ⟨rfl, rfl⟩⟩
def askP (μ : Me) (l p t : Int32) : Prop := (0 ≤ l ∧ l < μ.1 1 1) ∧ (0 ≤ p ∧ p < 36) ∧ (1 ≤ t ∧ t ≤ 9)
/-- what being ASKED does -/
def keepM (μ : Me) (c p : Nat) (day : Int32) (q : Int32 × Int32 × Int32 × Int32) : Me := r3 μ c (keepFirm q.2.1 q.2.2.2.toNatClampNeg (μ.1 (c + 1)) p) (keepRights q.2.1 day (μ.1 (c + 2)) (μ.1 (c + 3)) p) (upd (μ.1 (c + 3)) p day)
theorem find_by {k a : Int32} {f : Nat → Int32} {p : Nat} {t g s : Int32} (hp : p < 36) (h : (findS k a f p t g s).2.1 = 2) : ∃ q, q < 36 ∧ (findS k a f p t g s).2.2.2 = nI q := by
  unfold findS at h ⊢
  split at h
  · exact absurd (show (0 : Int32) = 2 from h) (by decide)
  · rename_i h0
    split at h
    · exact absurd (show (1 : Int32) = 2 from h) (by decide)
    · rename_i h1
      split at h
      · rename_i h2
        rw [if_neg h0, if_neg h1, if_pos h2]
        exact ft_or hp 4 (by decide) rfl (Int32.not_lt.mpr h2.1)
      · exact absurd (show (3 : Int32) = 2 from h) (by decide)
theorem keep_ct {c p : Nat} (hc : isL c) (hp : p < 36) (k a : Int32) (f : Nat → Int32) (t g s day : Int32) (μ : Me) : CtV m_Learner_keepAnswer 1 [.ref c, .ref 57, .int (nI p), .int day] (ansM μ (findS k a f p t g s)) (keepM (ansM μ (findS k a f p t g s)) c p day (findS k a f p t g s)) := by
  have h := c_Learner_keepAnswer hc hp day (ansM μ (findS k a f p t g s)) ((findS k a f p t g s).2.2.2.toNatClampNeg) (fun h2 => by
    rw [ansM_1] at h2
    obtain ⟨q, hq, e⟩ := find_by hp h2
    rw [ansM_3, e, cl36 hq (by decide)]
    exact ⟨rfl, hq⟩)
  rw [ansM_1] at h
  exact h
set_option maxHeartbeats 400000 in
theorem c_S_ask {m : Nat} (hm : m ≤ 4) (l p t : Int32) (μ : Me) (hct : μ.1 1 1 = nI m) : Ct m_S_ask 5 [.ref 0, .int l, .int p, .int t] μ (fun r μ' => (askP μ l p t → r = some (.int ((ansS μ l p t).1)) ∧ μ' = keepM (ansM μ (ansS μ l p t)) (lcl l) p.toNatClampNeg (μ.1 1 3) (ansS μ l p t)) ∧ (¬ askP μ l p t → r = some (.int (-1)) ∧ μ' = μ)) := by
  refine Ct.of (ls := [.ref 0, .int l, .int p, .int t, flr]) rfl (Nat.le_of_ble_eq_true rfl) rfl (fun X => ?_)
  by_cases hG : 0 ≤ l ∧ l < nI m
  · obtain ⟨j, hj, rfl⟩ := lr_yes hm hG
    have hj4 : j < 4 := by omega
    have hL := isL_s j hj4
    obtain ⟨s9, s0, s1, s2, s3⟩ := id hL
    have hcl := lcl_n hj4
    refine r_aload_n 0 d_S_ask_0 rfl rfl ?_
    refine r_getR fl_S_12 (by first | with_reducible assumption | rfl) rfl d_S_ask_1 ?_
    refine r_iload_n 1 d_S_ask_4 rfl rfl ?_
    refine r_callVa (c_School_learnerAt_yes j m hj hm _ hct) lk_S_127 (by first | with_reducible assumption | rfl) d_S_ask_5 rfl rfl (Nat.le_of_ble_eq_true rfl) (by decide) ?_
    refine r_astore 4 [_, _, _, _, _] d_S_ask_8 (by decide) rfl ?_
    refine r_aload 4 d_S_ask_10 rfl ?_
    refine r_ifnull d_S_ask_12 ?_
    refine r_iload_n 2 d_S_ask_15 rfl rfl ?_
    refine r_callSi (c_S_isPair _ _) lk_S_144 d_S_ask_16 rfl rfl (Nat.le_of_ble_eq_true rfl) (by decide) ?_
    refine r_if_eq d_S_ask_19 (fun h19 => ?_) (fun h19 => ?_)
    · refine r_iconst (-1) d_S_ask_29 rfl ?_
      refine r_iret .int d_S_ask_30 rfl rfl ?_
      refine ⟨fun z => ?_, fun _ => ⟨rfl, rfl⟩⟩
      first
        | exact absurd z.2.1 (bz_np h19)
        | exact absurd z.2.2 (bz_np h26)
    · refine r_iload_n 3 d_S_ask_22 rfl rfl ?_
      refine r_callSi (c_S_isSeconds _ _) lk_S_190 d_S_ask_23 rfl rfl (Nat.le_of_ble_eq_true rfl) (by decide) ?_
      refine r_if_ne d_S_ask_26 (fun h26 => ?_) (fun h26 => ?_)
      · have hP := bz_p h19
        have hT := bz_p h26
        obtain ⟨zq, zhq, rfl⟩ := pr_yes hP
        have hcp := cl36 zhq (show 36 ≤ 1000 by decide)
        refine r_aload_n 0 d_S_ask_31 rfl rfl ?_
        refine r_getR fl_S_47 (by first | with_reducible assumption | rfl) rfl d_S_ask_32 ?_
        refine r_aload 4 d_S_ask_35 rfl ?_
        refine r_iload_n 2 d_S_ask_37 rfl rfl ?_
        refine r_iload_n 3 d_S_ask_38 rfl rfl ?_
        refine r_aload_n 0 d_S_ask_39 rfl rfl ?_
        refine r_getR fl_S_12 (by first | with_reducible assumption | rfl) rfl d_S_ask_40 ?_
        refine r_getR fl_S_184 (by first | with_reducible assumption | rfl) rfl d_S_ask_43 ?_
        refine r_callVv (c_Answer_find hL zhq rfl _ _) lk_S_196 (by first | with_reducible assumption | rfl) d_S_ask_46 rfl rfl (Nat.le_of_ble_eq_true rfl) (by decide) ?_
        refine r_aload 4 d_S_ask_49 rfl ?_
        refine r_aload_n 0 d_S_ask_51 rfl rfl ?_
        refine r_getR fl_S_47 (by first | with_reducible assumption | rfl) rfl d_S_ask_52 ?_
        refine r_iload_n 2 d_S_ask_55 rfl rfl ?_
        refine r_aload_n 0 d_S_ask_56 rfl rfl ?_
        refine r_getR fl_S_12 (by first | with_reducible assumption | rfl) rfl d_S_ask_57 ?_
        refine r_getI fl_S_187 (by first | with_reducible assumption | rfl) rfl d_S_ask_60 ?_
        refine r_callVv (keep_ct hL zhq _ _ _ _ _ _ _ _) lk_S_212 (by first | with_reducible assumption | rfl) d_S_ask_63 rfl rfl (Nat.le_of_ble_eq_true rfl) (by decide) ?_
        refine r_aload_n 0 d_S_ask_66 rfl rfl ?_
        refine r_getR fl_S_47 (by first | with_reducible assumption | rfl) rfl d_S_ask_67 ?_
        refine r_getI fl_S_200 (by first | with_reducible assumption | rfl) rfl d_S_ask_70 ?_
        refine r_iret .int d_S_ask_73 rfl rfl ?_
        refine ⟨fun _ => ?_, fun z => absurd ⟨by rw [hct]; exact hG, hP, hT⟩ z⟩
        rw [ansS, hcl, hcp, keepM, r3_ne (by omega) (by omega) (by omega), ansM_0]
        exact ⟨rfl, rfl⟩
      · refine r_iconst (-1) d_S_ask_29 rfl ?_
        refine r_iret .int d_S_ask_30 rfl rfl ?_
        refine ⟨fun z => ?_, fun _ => ⟨rfl, rfl⟩⟩
        first
          | exact absurd z.2.1 (bz_np h19)
          | exact absurd z.2.2 (bz_np h26)
  · have hno := lr_no hG
    rw [← hct] at hno
    refine r_aload_n 0 d_S_ask_0 rfl rfl ?_
    refine r_getR fl_S_12 (by first | with_reducible assumption | rfl) rfl d_S_ask_1 ?_
    refine r_iload_n 1 d_S_ask_4 rfl rfl ?_
    refine r_callVa (c_School_learnerAt_no _ _ hno) lk_S_127 (by first | with_reducible assumption | rfl) d_S_ask_5 rfl rfl (Nat.le_of_ble_eq_true rfl) (by decide) ?_
    refine r_astoreN 4 [_, _, _, _, _] d_S_ask_8 (by decide) rfl ?_
    refine r_aloadN 4 d_S_ask_10 rfl ?_
    refine r_ifnullN d_S_ask_12 ?_
    refine r_iconst (-1) d_S_ask_29 rfl ?_
    refine r_iret .int d_S_ask_30 rfl rfl ?_
    exact ⟨fun z => absurd z.1 (by rw [hct]; exact hG), fun _ => ⟨rfl, rfl⟩⟩
def tellP (μ : Me) (l p : Int32) : Prop := (0 ≤ l ∧ l < μ.1 1 1) ∧ (0 ≤ p ∧ p < 36)
set_option maxHeartbeats 400000 in
theorem c_S_tell {m : Nat} (hm : m ≤ 4) (l p : Int32) (μ : Me) (hct : μ.1 1 1 = nI m) : Ct m_S_tell 3 [.ref 0, .int l, .int p] μ (fun r μ' => (tellP μ l p → r = some (.int (toldS (μ.1 (lcl l + 1) p.toNatClampNeg))) ∧ μ' = uI μ (lcl l + 1) p.toNatClampNeg (toldS (μ.1 (lcl l + 1) p.toNatClampNeg))) ∧ (¬ tellP μ l p → r = some (.int (-1)) ∧ μ' = μ)) := by
  refine Ct.of (ls := [.ref 0, .int l, .int p, flr]) rfl (Nat.le_of_ble_eq_true rfl) rfl (fun X => ?_)
  by_cases hG : 0 ≤ l ∧ l < nI m
  · obtain ⟨j, hj, rfl⟩ := lr_yes hm hG
    have hj4 : j < 4 := by omega
    have hL := isL_s j hj4
    obtain ⟨s9, s0, s1, s2, s3⟩ := id hL
    have hcl := lcl_n hj4
    refine r_aload_n 0 d_S_tell_0 rfl rfl ?_
    refine r_getR fl_S_12 (by first | with_reducible assumption | rfl) rfl d_S_tell_1 ?_
    refine r_iload_n 1 d_S_tell_4 rfl rfl ?_
    refine r_callVa (c_School_learnerAt_yes j m hj hm _ hct) lk_S_127 (by first | with_reducible assumption | rfl) d_S_tell_5 rfl rfl (Nat.le_of_ble_eq_true rfl) (by decide) ?_
    refine r_astore_n 3 [_, _, _, _] d_S_tell_8 rfl (by decide) rfl ?_
    refine r_aload_n 3 d_S_tell_9 rfl rfl ?_
    refine r_ifnull d_S_tell_10 ?_
    refine r_iload_n 2 d_S_tell_13 rfl rfl ?_
    refine r_callSi (c_S_isPair _ _) lk_S_144 d_S_tell_14 rfl rfl (Nat.le_of_ble_eq_true rfl) (by decide) ?_
    refine r_if_ne d_S_tell_17 (fun h17 => ?_) (fun h17 => ?_)
    · have hP := bz_p h17
      obtain ⟨zq, zhq, rfl⟩ := pr_yes hP
      have hcp := cl36 zhq (show 36 ≤ 1000 by decide)
      refine r_aload_n 3 d_S_tell_22 rfl rfl ?_
      refine r_iload_n 2 d_S_tell_23 rfl rfl ?_
      refine r_callVv (c_Learner_hear hL zhq _) lk_S_216 (by first | with_reducible assumption | rfl) d_S_tell_24 rfl rfl (Nat.le_of_ble_eq_true rfl) (by decide) ?_
      refine r_aload_n 3 d_S_tell_27 rfl rfl ?_
      refine r_getR fl_S_166 (by first | with_reducible assumption | rfl) rfl d_S_tell_28 ?_
      refine r_iload_n 2 d_S_tell_31 rfl rfl ?_
      refine r_ialdN (by first | with_reducible assumption | rfl) (by first | with_reducible assumption | omega | decide | assumption) d_S_tell_32 ?_
      refine r_iret .int d_S_tell_33 rfl rfl ?_
      refine ⟨fun _ => ?_, fun z => absurd ⟨by rw [hct]; exact hG, hP⟩ z⟩
      rw [hcl, hcp, uI_at]
      exact ⟨rfl, rfl⟩
    · refine r_iconst (-1) d_S_tell_20 rfl ?_
      refine r_iret .int d_S_tell_21 rfl rfl ?_
      refine ⟨fun z => ?_, fun _ => ⟨rfl, rfl⟩⟩
      first
        | exact absurd z.2 (bz_np h17)
  · have hno := lr_no hG
    rw [← hct] at hno
    refine r_aload_n 0 d_S_tell_0 rfl rfl ?_
    refine r_getR fl_S_12 (by first | with_reducible assumption | rfl) rfl d_S_tell_1 ?_
    refine r_iload_n 1 d_S_tell_4 rfl rfl ?_
    refine r_callVa (c_School_learnerAt_no _ _ hno) lk_S_127 (by first | with_reducible assumption | rfl) d_S_tell_5 rfl rfl (Nat.le_of_ble_eq_true rfl) (by decide) ?_
    refine r_astore_nN 3 [_, _, _, _] d_S_tell_8 rfl (by decide) rfl ?_
    refine r_aload_nN 3 d_S_tell_9 rfl rfl ?_
    refine r_ifnullN d_S_tell_10 ?_
    refine r_iconst (-1) d_S_tell_20 rfl ?_
    refine r_iret .int d_S_tell_21 rfl rfl ?_
    exact ⟨fun z => absurd z.1 (by rw [hct]; exact hG), fun _ => ⟨rfl, rfl⟩⟩
