/-! the class's public methods -/
theorem lr_yes {l : Int32} {m : Nat} (hm : m ≤ 4) (h : 0 ≤ l ∧ l < nI m) : ∃ j, j < m ∧ l = nI j := by
  rcases pk_ix l (n := m) (by omega) with z | z | z
  · exact absurd z (Int32.not_lt.mpr h.1)
  · exact absurd h.2 (Int32.not_lt.mpr z)
  · exact z
theorem lr_no {l x : Int32} (h : ¬ (0 ≤ l ∧ l < x)) : l < 0 ∨ x ≤ l := by
  by_cases z : l < 0
  · exact Or.inl z
  · exact Or.inr (Int32.not_lt.mp (fun y => h ⟨Int32.not_lt.mp z, y⟩))
theorem pr_yes {p : Int32} (h : 0 ≤ p ∧ p < 36) : ∃ q, q < 36 ∧ p = nI q := by
  rcases pk_ix p (n := 36) (by decide) with z | z | z
  · exact absurd z (Int32.not_lt.mpr h.1)
  · exact absurd h.2 (Int32.not_lt.mpr z)
  · exact z
/-- the cell of LEARNER l -/
def lcl (l : Int32) : Nat := 8 + 4 * l.toNatClampNeg
theorem lcl_n {j : Nat} (hj : j < 4) : lcl (nI j) = 8 + 4 * j := by rw [lcl, cl36 hj (by decide)]

def lrnOfS (μ : Me) (l w : Int32) : Int32 := if 0 ≤ l ∧ l < μ.1 1 1 then (if w = 0 then μ.1 (lcl l) 0 else if w = 1 then μ.1 (lcl l) 1 else if w = 2 then sumF (μ.1 (lcl l + 1)) 36 else -1) else -1
set_option maxHeartbeats 400000 in
theorem c_S_learnerOf {m : Nat} (hm : m ≤ 4) (l w : Int32) (μ : Me) (hct : μ.1 1 1 = nI m) : CtI m_S_learnerOf 2 [.ref 0, .int l, .int w] μ (lrnOfS μ l w) (μ) := by
  refine Ct.of (ls := [.ref 0, .int l, .int w, flr]) rfl (Nat.le_of_ble_eq_true rfl) rfl (fun X => ?_)
  by_cases hG : 0 ≤ l ∧ l < nI m
  · obtain ⟨j, hj, rfl⟩ := lr_yes hm hG
    have hj4 : j < 4 := by omega
    have hL := isL_s j hj4
    obtain ⟨s9, s0, s1, s2, s3⟩ := id hL
    have hcl := lcl_n hj4
    refine r_aload_n 0 d_S_learnerOf_0 rfl rfl ?_
    refine r_getR fl_S_12 (by first | with_reducible assumption | rfl) rfl d_S_learnerOf_1 ?_
    refine r_iload_n 1 d_S_learnerOf_4 rfl rfl ?_
    refine r_callVa (c_School_learnerAt_yes j m hj hm _ hct) lk_S_127 (by first | with_reducible assumption | rfl) d_S_learnerOf_5 rfl rfl (Nat.le_of_ble_eq_true rfl) (by decide) ?_
    refine r_astore_n 3 [_, _, _, _] d_S_learnerOf_8 rfl (by decide) rfl ?_
    refine r_aload_n 3 d_S_learnerOf_9 rfl rfl ?_
    refine r_ifnonnull d_S_learnerOf_10 ?_
    refine r_iload_n 2 d_S_learnerOf_15 rfl rfl ?_
    refine r_ts d_S_learnerOf_16 (List.forall_mem_cons.mpr ⟨fun h16 => ?_, List.forall_mem_cons.mpr ⟨fun h16 => ?_, List.forall_mem_cons.mpr ⟨fun h16 => ?_, fun _ h => absurd h List.not_mem_nil⟩⟩⟩) (fun h16 => ?_)
    · refine r_aload_n 3 d_S_learnerOf_44 rfl rfl ?_
      refine r_getI fl_S_131 (by first | with_reducible assumption | rfl) rfl d_S_learnerOf_45 ?_
      refine r_iret .int d_S_learnerOf_48 rfl rfl ?_
      refine ⟨?_, rfl⟩
      rw [lrnOfS, hct, if_pos hG, hcl]
      simp_all
    · refine r_aload_n 3 d_S_learnerOf_49 rfl rfl ?_
      refine r_getI fl_S_134 (by first | with_reducible assumption | rfl) rfl d_S_learnerOf_50 ?_
      refine r_iret .int d_S_learnerOf_53 rfl rfl ?_
      refine ⟨?_, rfl⟩
      rw [lrnOfS, hct, if_pos hG, hcl]
      simp_all
    · refine r_aload_n 3 d_S_learnerOf_54 rfl rfl ?_
      refine r_callVi (c_Learner_firmSum hL _) lk_S_137 (by first | with_reducible assumption | rfl) d_S_learnerOf_55 rfl rfl (Nat.le_of_ble_eq_true rfl) (by decide) ?_
      refine r_iret .int d_S_learnerOf_58 rfl rfl ?_
      refine ⟨?_, rfl⟩
      rw [lrnOfS, hct, if_pos hG, hcl]
      simp_all
    · refine r_iconst (-1) d_S_learnerOf_59 rfl ?_
      refine r_iret .int d_S_learnerOf_60 rfl rfl ?_
      refine ⟨?_, rfl⟩
      rw [lrnOfS, hct, if_pos hG, hcl]
      simp_all
  · have hno := lr_no hG
    rw [← hct] at hno
    refine r_aload_n 0 d_S_learnerOf_0 rfl rfl ?_
    refine r_getR fl_S_12 (by first | with_reducible assumption | rfl) rfl d_S_learnerOf_1 ?_
    refine r_iload_n 1 d_S_learnerOf_4 rfl rfl ?_
    refine r_callVa (c_School_learnerAt_no _ _ hno) lk_S_127 (by first | with_reducible assumption | rfl) d_S_learnerOf_5 rfl rfl (Nat.le_of_ble_eq_true rfl) (by decide) ?_
    refine r_astore_nN 3 [_, _, _, _] d_S_learnerOf_8 rfl (by decide) rfl ?_
    refine r_aload_nN 3 d_S_learnerOf_9 rfl rfl ?_
    refine r_ifnonnullN d_S_learnerOf_10 ?_
    refine r_iconst (-1) d_S_learnerOf_13 rfl ?_
    refine r_iret .int d_S_learnerOf_14 rfl rfl ?_
    exact ⟨by rw [lrnOfS, hct, if_neg hG], rfl⟩
def headS (μ : Me) (l p w : Int32) : Int32 := if 0 ≤ l ∧ l < μ.1 1 1 then (if 0 ≤ p ∧ p < 36 then (if w = 0 then μ.1 (lcl l + 1) p.toNatClampNeg else if w = 1 then μ.1 (lcl l + 2) p.toNatClampNeg else if w = 2 then μ.1 (lcl l + 3) p.toNatClampNeg else if w = 3 then boxS (μ.1 (lcl l + 2) p.toNatClampNeg) else if w = 4 then dueS (μ.1 (lcl l + 3) p.toNatClampNeg) (μ.1 (lcl l + 2) p.toNatClampNeg) else -1) else -1) else -1
set_option maxHeartbeats 400000 in
theorem c_S_head {m : Nat} (hm : m ≤ 4) (l p w : Int32) (μ : Me) (hct : μ.1 1 1 = nI m) : CtI m_S_head 3 [.ref 0, .int l, .int p, .int w] μ (headS μ l p w) (μ) := by
  refine Ct.of (ls := [.ref 0, .int l, .int p, .int w, flr]) rfl (Nat.le_of_ble_eq_true rfl) rfl (fun X => ?_)
  by_cases hG : 0 ≤ l ∧ l < nI m
  · obtain ⟨j, hj, rfl⟩ := lr_yes hm hG
    have hj4 : j < 4 := by omega
    have hL := isL_s j hj4
    obtain ⟨s9, s0, s1, s2, s3⟩ := id hL
    have hcl := lcl_n hj4
    refine r_aload_n 0 d_S_head_0 rfl rfl ?_
    refine r_getR fl_S_12 (by first | with_reducible assumption | rfl) rfl d_S_head_1 ?_
    refine r_iload_n 1 d_S_head_4 rfl rfl ?_
    refine r_callVa (c_School_learnerAt_yes j m hj hm _ hct) lk_S_127 (by first | with_reducible assumption | rfl) d_S_head_5 rfl rfl (Nat.le_of_ble_eq_true rfl) (by decide) ?_
    refine r_astore 4 [_, _, _, _, _] d_S_head_8 (by decide) rfl ?_
    refine r_aload 4 d_S_head_10 rfl ?_
    refine r_ifnull d_S_head_12 ?_
    refine r_iload_n 2 d_S_head_15 rfl rfl ?_
    refine r_callSi (c_S_isPair _ _) lk_S_144 d_S_head_16 rfl rfl (Nat.le_of_ble_eq_true rfl) (by decide) ?_
    refine r_if_ne d_S_head_19 (fun h19 => ?_) (fun h19 => ?_)
    · have hP := bz_p h19
      obtain ⟨zq, zhq, rfl⟩ := pr_yes hP
      have hcp := cl36 zhq (show 36 ≤ 1000 by decide)
      refine r_iload_n 3 d_S_head_24 rfl rfl ?_
      refine r_ts d_S_head_25 (List.forall_mem_cons.mpr ⟨fun h25 => ?_, List.forall_mem_cons.mpr ⟨fun h25 => ?_, List.forall_mem_cons.mpr ⟨fun h25 => ?_, List.forall_mem_cons.mpr ⟨fun h25 => ?_, List.forall_mem_cons.mpr ⟨fun h25 => ?_, fun _ h => absurd h List.not_mem_nil⟩⟩⟩⟩⟩) (fun h25 => ?_)
      · refine r_aload 4 d_S_head_60 rfl ?_
        refine r_getR fl_S_166 (by first | with_reducible assumption | rfl) rfl d_S_head_62 ?_
        refine r_iload_n 2 d_S_head_65 rfl rfl ?_
        refine r_ialdN (by first | with_reducible assumption | rfl) (by first | with_reducible assumption | omega | decide | assumption) d_S_head_66 ?_
        refine r_iret .int d_S_head_67 rfl rfl ?_
        refine ⟨?_, rfl⟩
        rw [headS, hct, if_pos hG, if_pos hP, hcl, hcp]
        simp_all
      · refine r_aload 4 d_S_head_68 rfl ?_
        refine r_getR fl_S_169 (by first | with_reducible assumption | rfl) rfl d_S_head_70 ?_
        refine r_iload_n 2 d_S_head_73 rfl rfl ?_
        refine r_ialdN (by first | with_reducible assumption | rfl) (by first | with_reducible assumption | omega | decide | assumption) d_S_head_74 ?_
        refine r_iret .int d_S_head_75 rfl rfl ?_
        refine ⟨?_, rfl⟩
        rw [headS, hct, if_pos hG, if_pos hP, hcl, hcp]
        simp_all
      · refine r_aload 4 d_S_head_76 rfl ?_
        refine r_getR fl_S_172 (by first | with_reducible assumption | rfl) rfl d_S_head_78 ?_
        refine r_iload_n 2 d_S_head_81 rfl rfl ?_
        refine r_ialdN (by first | with_reducible assumption | rfl) (by first | with_reducible assumption | omega | decide | assumption) d_S_head_82 ?_
        refine r_iret .int d_S_head_83 rfl rfl ?_
        refine ⟨?_, rfl⟩
        rw [headS, hct, if_pos hG, if_pos hP, hcl, hcp]
        simp_all
      · refine r_aload 4 d_S_head_84 rfl ?_
        refine r_iload_n 2 d_S_head_86 rfl rfl ?_
        refine r_callVi (c_Learner_box hL zhq _) lk_S_175 (by first | with_reducible assumption | rfl) d_S_head_87 rfl rfl (Nat.le_of_ble_eq_true rfl) (by decide) ?_
        refine r_iret .int d_S_head_90 rfl rfl ?_
        refine ⟨?_, rfl⟩
        rw [headS, hct, if_pos hG, if_pos hP, hcl, hcp]
        simp_all
      · refine r_aload 4 d_S_head_91 rfl ?_
        refine r_iload_n 2 d_S_head_93 rfl rfl ?_
        refine r_callVi (c_Learner_due hL zhq _) lk_S_178 (by first | with_reducible assumption | rfl) d_S_head_94 rfl rfl (Nat.le_of_ble_eq_true rfl) (by decide) ?_
        refine r_iret .int d_S_head_97 rfl rfl ?_
        refine ⟨?_, rfl⟩
        rw [headS, hct, if_pos hG, if_pos hP, hcl, hcp]
        simp_all
      · refine r_iconst (-1) d_S_head_98 rfl ?_
        refine r_iret .int d_S_head_99 rfl rfl ?_
        refine ⟨?_, rfl⟩
        rw [headS, hct, if_pos hG, if_pos hP, hcl, hcp]
        simp_all
    · refine r_iconst (-1) d_S_head_22 rfl ?_
      refine r_iret .int d_S_head_23 rfl rfl ?_
      exact ⟨by rw [headS, hct, if_pos hG, if_neg (bz_np h19)], rfl⟩
  · have hno := lr_no hG
    rw [← hct] at hno
    refine r_aload_n 0 d_S_head_0 rfl rfl ?_
    refine r_getR fl_S_12 (by first | with_reducible assumption | rfl) rfl d_S_head_1 ?_
    refine r_iload_n 1 d_S_head_4 rfl rfl ?_
    refine r_callVa (c_School_learnerAt_no _ _ hno) lk_S_127 (by first | with_reducible assumption | rfl) d_S_head_5 rfl rfl (Nat.le_of_ble_eq_true rfl) (by decide) ?_
    refine r_astoreN 4 [_, _, _, _, _] d_S_head_8 (by decide) rfl ?_
    refine r_aloadN 4 d_S_head_10 rfl ?_
    refine r_ifnullN d_S_head_12 ?_
    refine r_iconst (-1) d_S_head_22 rfl ?_
    refine r_iret .int d_S_head_23 rfl rfl ?_
    exact ⟨by rw [headS, hct, if_neg hG], rfl⟩
def feelM (μ : Me) (l p t : Int32) : Int32 := if 0 ≤ l ∧ l < μ.1 1 1 then (if 0 ≤ p ∧ p < 36 then (if 1 ≤ t ∧ t ≤ 9 then feelS (μ.1 (lcl l) 0) (μ.1 (lcl l) 1) (μ.1 (lcl l + 1) p.toNatClampNeg) t else -1) else -1) else -1
set_option maxHeartbeats 400000 in
theorem c_S_feel {m : Nat} (hm : m ≤ 4) (l p t : Int32) (μ : Me) (hct : μ.1 1 1 = nI m) : CtI m_S_feel 2 [.ref 0, .int l, .int p, .int t] μ (feelM μ l p t) (μ) := by
  refine Ct.of (ls := [.ref 0, .int l, .int p, .int t, flr]) rfl (Nat.le_of_ble_eq_true rfl) rfl (fun X => ?_)
  by_cases hG : 0 ≤ l ∧ l < nI m
  · obtain ⟨j, hj, rfl⟩ := lr_yes hm hG
    have hj4 : j < 4 := by omega
    have hL := isL_s j hj4
    obtain ⟨s9, s0, s1, s2, s3⟩ := id hL
    have hcl := lcl_n hj4
    refine r_aload_n 0 d_S_feel_0 rfl rfl ?_
    refine r_getR fl_S_12 (by first | with_reducible assumption | rfl) rfl d_S_feel_1 ?_
    refine r_iload_n 1 d_S_feel_4 rfl rfl ?_
    refine r_callVa (c_School_learnerAt_yes j m hj hm _ hct) lk_S_127 (by first | with_reducible assumption | rfl) d_S_feel_5 rfl rfl (Nat.le_of_ble_eq_true rfl) (by decide) ?_
    refine r_astore 4 [_, _, _, _, _] d_S_feel_8 (by decide) rfl ?_
    refine r_aload 4 d_S_feel_10 rfl ?_
    refine r_ifnull d_S_feel_12 ?_
    refine r_iload_n 2 d_S_feel_15 rfl rfl ?_
    refine r_callSi (c_S_isPair _ _) lk_S_144 d_S_feel_16 rfl rfl (Nat.le_of_ble_eq_true rfl) (by decide) ?_
    refine r_if_eq d_S_feel_19 (fun h19 => ?_) (fun h19 => ?_)
    · refine r_iconst (-1) d_S_feel_29 rfl ?_
      refine r_iret .int d_S_feel_30 rfl rfl ?_
      refine ⟨?_, rfl⟩
      rw [feelM, hct, if_pos hG]
      first
        | rw [if_neg (bz_np h19)]
        | rw [if_pos (bz_p h19), if_neg (bz_np h26)]
    · refine r_iload_n 3 d_S_feel_22 rfl rfl ?_
      refine r_callSi (c_S_isSeconds _ _) lk_S_190 d_S_feel_23 rfl rfl (Nat.le_of_ble_eq_true rfl) (by decide) ?_
      refine r_if_ne d_S_feel_26 (fun h26 => ?_) (fun h26 => ?_)
      · have hP := bz_p h19
        have hT := bz_p h26
        obtain ⟨zq, zhq, rfl⟩ := pr_yes hP
        have hcp := cl36 zhq (show 36 ≤ 1000 by decide)
        refine r_aload 4 d_S_feel_31 rfl ?_
        refine r_iload_n 2 d_S_feel_33 rfl rfl ?_
        refine r_iload_n 3 d_S_feel_34 rfl rfl ?_
        refine r_callVi (c_Learner_feeling hL zhq _ _) lk_S_193 (by first | with_reducible assumption | rfl) d_S_feel_35 rfl rfl (Nat.le_of_ble_eq_true rfl) (by decide) ?_
        refine r_iret .int d_S_feel_38 rfl rfl ?_
        exact ⟨by rw [feelM, hct, if_pos hG, if_pos hP, if_pos hT, hcl, hcp], rfl⟩
      · refine r_iconst (-1) d_S_feel_29 rfl ?_
        refine r_iret .int d_S_feel_30 rfl rfl ?_
        refine ⟨?_, rfl⟩
        rw [feelM, hct, if_pos hG]
        first
          | rw [if_neg (bz_np h19)]
          | rw [if_pos (bz_p h19), if_neg (bz_np h26)]
  · have hno := lr_no hG
    rw [← hct] at hno
    refine r_aload_n 0 d_S_feel_0 rfl rfl ?_
    refine r_getR fl_S_12 (by first | with_reducible assumption | rfl) rfl d_S_feel_1 ?_
    refine r_iload_n 1 d_S_feel_4 rfl rfl ?_
    refine r_callVa (c_School_learnerAt_no _ _ hno) lk_S_127 (by first | with_reducible assumption | rfl) d_S_feel_5 rfl rfl (Nat.le_of_ble_eq_true rfl) (by decide) ?_
    refine r_astoreN 4 [_, _, _, _, _] d_S_feel_8 (by decide) rfl ?_
    refine r_aloadN 4 d_S_feel_10 rfl ?_
    refine r_ifnullN d_S_feel_12 ?_
    refine r_iconst (-1) d_S_feel_29 rfl ?_
    refine r_iret .int d_S_feel_30 rfl rfl ?_
    exact ⟨by rw [feelM, hct, if_neg hG], rfl⟩
def firmP (μ : Me) (l p v : Int32) : Prop := (0 ≤ l ∧ l < μ.1 1 1) ∧ (0 ≤ p ∧ p < 36) ∧ (0 ≤ v ∧ v ≤ 100)
set_option maxHeartbeats 400000 in
theorem c_S_firm {m : Nat} (hm : m ≤ 4) (l p v : Int32) (μ : Me) (hct : μ.1 1 1 = nI m) : Ct m_S_firm 1 [.ref 0, .int l, .int p, .int v] μ (fun r μ' => (firmP μ l p v → r = some (.int (μ.1 (lcl l + 1) p.toNatClampNeg)) ∧ μ' = uI μ (lcl l + 1) p.toNatClampNeg v) ∧ (¬ firmP μ l p v → r = some (.int (-1)) ∧ μ' = μ)) := by
  refine Ct.of (ls := [.ref 0, .int l, .int p, .int v, flr, flr]) rfl (Nat.le_of_ble_eq_true rfl) rfl (fun X => ?_)
  by_cases hG : 0 ≤ l ∧ l < nI m
  · obtain ⟨j, hj, rfl⟩ := lr_yes hm hG
    have hj4 : j < 4 := by omega
    have hL := isL_s j hj4
    obtain ⟨s9, s0, s1, s2, s3⟩ := id hL
    have hcl := lcl_n hj4
    refine r_aload_n 0 d_S_firm_0 rfl rfl ?_
    refine r_getR fl_S_12 (by first | with_reducible assumption | rfl) rfl d_S_firm_1 ?_
    refine r_iload_n 1 d_S_firm_4 rfl rfl ?_
    refine r_callVa (c_School_learnerAt_yes j m hj hm _ hct) lk_S_127 (by first | with_reducible assumption | rfl) d_S_firm_5 rfl rfl (Nat.le_of_ble_eq_true rfl) (by decide) ?_
    refine r_astore 4 [_, _, _, _, _, _] d_S_firm_8 (by decide) rfl ?_
    refine r_aload 4 d_S_firm_10 rfl ?_
    refine r_ifnull d_S_firm_12 ?_
    refine r_iload_n 2 d_S_firm_15 rfl rfl ?_
    refine r_callSi (c_S_isPair _ _) lk_S_144 d_S_firm_16 rfl rfl (Nat.le_of_ble_eq_true rfl) (by decide) ?_
    refine r_if_eq d_S_firm_19 (fun h19 => ?_) (fun h19 => ?_)
    · refine r_iconst (-1) d_S_firm_31 rfl ?_
      refine r_iret .int d_S_firm_32 rfl rfl ?_
      refine ⟨fun z => ?_, fun _ => ⟨rfl, rfl⟩⟩
      first
        | exact absurd z.2.1 (bz_np h19)
        | exact absurd z.2.2 (bz_np h28)
    · refine r_iload_n 3 d_S_firm_22 rfl rfl ?_
      refine r_bipush (100) d_S_firm_23 (by decide) ?_
      refine r_callSi (c_S_isWithin _ _ _) lk_S_118 d_S_firm_25 rfl rfl (Nat.le_of_ble_eq_true rfl) (by decide) ?_
      refine r_if_ne d_S_firm_28 (fun h28 => ?_) (fun h28 => ?_)
      · have hP := bz_p h19
        have hV := bz_p h28
        obtain ⟨zq, zhq, rfl⟩ := pr_yes hP
        have hcp := cl36 zhq (show 36 ≤ 1000 by decide)
        refine r_aload 4 d_S_firm_33 rfl ?_
        refine r_getR fl_S_166 (by first | with_reducible assumption | rfl) rfl d_S_firm_35 ?_
        refine r_iload_n 2 d_S_firm_38 rfl rfl ?_
        refine r_ialdN (by first | with_reducible assumption | rfl) (by first | with_reducible assumption | omega | decide | assumption) d_S_firm_39 ?_
        refine r_istore 5 [_, _, _, _, _, _] d_S_firm_40 (by decide) rfl ?_
        refine r_aload 4 d_S_firm_42 rfl ?_
        refine r_getR fl_S_166 (by first | with_reducible assumption | rfl) rfl d_S_firm_44 ?_
        refine r_iload_n 2 d_S_firm_47 rfl rfl ?_
        refine r_iload_n 3 d_S_firm_48 rfl rfl ?_
        refine r_iastN (by first | with_reducible assumption | rfl) (by first | with_reducible assumption | omega | decide | assumption) d_S_firm_49 ?_
        refine r_iload 5 d_S_firm_50 rfl ?_
        refine r_iret .int d_S_firm_52 rfl rfl ?_
        rw [hcl, hcp]
        exact ⟨fun _ => ⟨rfl, rfl⟩, fun z => absurd ⟨by rw [hct]; exact hG, hP, hV⟩ z⟩
      · refine r_iconst (-1) d_S_firm_31 rfl ?_
        refine r_iret .int d_S_firm_32 rfl rfl ?_
        refine ⟨fun z => ?_, fun _ => ⟨rfl, rfl⟩⟩
        first
          | exact absurd z.2.1 (bz_np h19)
          | exact absurd z.2.2 (bz_np h28)
  · have hno := lr_no hG
    rw [← hct] at hno
    refine r_aload_n 0 d_S_firm_0 rfl rfl ?_
    refine r_getR fl_S_12 (by first | with_reducible assumption | rfl) rfl d_S_firm_1 ?_
    refine r_iload_n 1 d_S_firm_4 rfl rfl ?_
    refine r_callVa (c_School_learnerAt_no _ _ hno) lk_S_127 (by first | with_reducible assumption | rfl) d_S_firm_5 rfl rfl (Nat.le_of_ble_eq_true rfl) (by decide) ?_
    refine r_astoreN 4 [_, _, _, _, _, _] d_S_firm_8 (by decide) rfl ?_
    refine r_aloadN 4 d_S_firm_10 rfl ?_
    refine r_ifnullN d_S_firm_12 ?_
    refine r_iconst (-1) d_S_firm_31 rfl ?_
    refine r_iret .int d_S_firm_32 rfl rfl ?_
    exact ⟨fun z => absurd z.1 (by rw [hct]; exact hG), fun _ => ⟨rfl, rfl⟩⟩
def rightsP (μ : Me) (l p v : Int32) : Prop := (0 ≤ l ∧ l < μ.1 1 1) ∧ (0 ≤ p ∧ p < 36) ∧ (0 ≤ v ∧ v ≤ 9)
set_option maxHeartbeats 400000 in
theorem c_S_rights {m : Nat} (hm : m ≤ 4) (l p v : Int32) (μ : Me) (hct : μ.1 1 1 = nI m) : Ct m_S_rights 1 [.ref 0, .int l, .int p, .int v] μ (fun r μ' => (rightsP μ l p v → r = some (.int (μ.1 (lcl l + 2) p.toNatClampNeg)) ∧ μ' = uI μ (lcl l + 2) p.toNatClampNeg v) ∧ (¬ rightsP μ l p v → r = some (.int (-1)) ∧ μ' = μ)) := by
  refine Ct.of (ls := [.ref 0, .int l, .int p, .int v, flr, flr]) rfl (Nat.le_of_ble_eq_true rfl) rfl (fun X => ?_)
  by_cases hG : 0 ≤ l ∧ l < nI m
  · obtain ⟨j, hj, rfl⟩ := lr_yes hm hG
    have hj4 : j < 4 := by omega
    have hL := isL_s j hj4
    obtain ⟨s9, s0, s1, s2, s3⟩ := id hL
    have hcl := lcl_n hj4
    refine r_aload_n 0 d_S_rights_0 rfl rfl ?_
    refine r_getR fl_S_12 (by first | with_reducible assumption | rfl) rfl d_S_rights_1 ?_
    refine r_iload_n 1 d_S_rights_4 rfl rfl ?_
    refine r_callVa (c_School_learnerAt_yes j m hj hm _ hct) lk_S_127 (by first | with_reducible assumption | rfl) d_S_rights_5 rfl rfl (Nat.le_of_ble_eq_true rfl) (by decide) ?_
    refine r_astore 4 [_, _, _, _, _, _] d_S_rights_8 (by decide) rfl ?_
    refine r_aload 4 d_S_rights_10 rfl ?_
    refine r_ifnull d_S_rights_12 ?_
    refine r_iload_n 2 d_S_rights_15 rfl rfl ?_
    refine r_callSi (c_S_isPair _ _) lk_S_144 d_S_rights_16 rfl rfl (Nat.le_of_ble_eq_true rfl) (by decide) ?_
    refine r_if_eq d_S_rights_19 (fun h19 => ?_) (fun h19 => ?_)
    · refine r_iconst (-1) d_S_rights_31 rfl ?_
      refine r_iret .int d_S_rights_32 rfl rfl ?_
      refine ⟨fun z => ?_, fun _ => ⟨rfl, rfl⟩⟩
      first
        | exact absurd z.2.1 (bz_np h19)
        | exact absurd z.2.2 (bz_np h28)
    · refine r_iload_n 3 d_S_rights_22 rfl rfl ?_
      refine r_bipush (9) d_S_rights_23 (by decide) ?_
      refine r_callSi (c_S_isWithin _ _ _) lk_S_118 d_S_rights_25 rfl rfl (Nat.le_of_ble_eq_true rfl) (by decide) ?_
      refine r_if_ne d_S_rights_28 (fun h28 => ?_) (fun h28 => ?_)
      · have hP := bz_p h19
        have hV := bz_p h28
        obtain ⟨zq, zhq, rfl⟩ := pr_yes hP
        have hcp := cl36 zhq (show 36 ≤ 1000 by decide)
        refine r_aload 4 d_S_rights_33 rfl ?_
        refine r_getR fl_S_169 (by first | with_reducible assumption | rfl) rfl d_S_rights_35 ?_
        refine r_iload_n 2 d_S_rights_38 rfl rfl ?_
        refine r_ialdN (by first | with_reducible assumption | rfl) (by first | with_reducible assumption | omega | decide | assumption) d_S_rights_39 ?_
        refine r_istore 5 [_, _, _, _, _, _] d_S_rights_40 (by decide) rfl ?_
        refine r_aload 4 d_S_rights_42 rfl ?_
        refine r_getR fl_S_169 (by first | with_reducible assumption | rfl) rfl d_S_rights_44 ?_
        refine r_iload_n 2 d_S_rights_47 rfl rfl ?_
        refine r_iload_n 3 d_S_rights_48 rfl rfl ?_
        refine r_iastN (by first | with_reducible assumption | rfl) (by first | with_reducible assumption | omega | decide | assumption) d_S_rights_49 ?_
        refine r_iload 5 d_S_rights_50 rfl ?_
        refine r_iret .int d_S_rights_52 rfl rfl ?_
        rw [hcl, hcp]
        exact ⟨fun _ => ⟨rfl, rfl⟩, fun z => absurd ⟨by rw [hct]; exact hG, hP, hV⟩ z⟩
      · refine r_iconst (-1) d_S_rights_31 rfl ?_
        refine r_iret .int d_S_rights_32 rfl rfl ?_
        refine ⟨fun z => ?_, fun _ => ⟨rfl, rfl⟩⟩
        first
          | exact absurd z.2.1 (bz_np h19)
          | exact absurd z.2.2 (bz_np h28)
  · have hno := lr_no hG
    rw [← hct] at hno
    refine r_aload_n 0 d_S_rights_0 rfl rfl ?_
    refine r_getR fl_S_12 (by first | with_reducible assumption | rfl) rfl d_S_rights_1 ?_
    refine r_iload_n 1 d_S_rights_4 rfl rfl ?_
    refine r_callVa (c_School_learnerAt_no _ _ hno) lk_S_127 (by first | with_reducible assumption | rfl) d_S_rights_5 rfl rfl (Nat.le_of_ble_eq_true rfl) (by decide) ?_
    refine r_astoreN 4 [_, _, _, _, _, _] d_S_rights_8 (by decide) rfl ?_
    refine r_aloadN 4 d_S_rights_10 rfl ?_
    refine r_ifnullN d_S_rights_12 ?_
    refine r_iconst (-1) d_S_rights_31 rfl ?_
    refine r_iret .int d_S_rights_32 rfl rfl ?_
    exact ⟨fun z => absurd z.1 (by rw [hct]; exact hG), fun _ => ⟨rfl, rfl⟩⟩
