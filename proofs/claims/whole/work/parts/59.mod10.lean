/-! the reference: a new LEARNER, rows, sheets, shelves -/
def lnG (g : Nat → Int32) (m : Nat) (k a : Int32) : Nat → Int32 := upd (upd g (2 + 110 * m) k) (2 + 110 * m + 1) a
theorem ls3_cut {g : Nat → Int32} {A l i : Nat} {f r x f' r' x' : Nat → Int32} (hi : i < 36) : upd (upd (upd (ls3 g A l (cut i f f') (cut i r r') (cut i x x')) (A + 4 + 110 * l + 3 * i) (f i)) (A + 4 + 110 * l + 3 * i + 1) (r i)) (A + 4 + 110 * l + 3 * i + 2) (x i) = ls3 g A l (cut (i + 1) f f') (cut (i + 1) r r') (cut (i + 1) x x') := by
  rw [ls3_u1 hi, ls3_u2 hi, ls3_u3 hi, cut_s, cut_s, cut_s]
def lnR (g : Nat → Int32) (m : Nat) (k a : Int32) (i : Nat) : Nat → Int32 := ls3 (lnG g m k a) 0 m (cut i firstS (fM (lnG g m k a) 0 m)) (cut i (fun _ => 0) (rM (lnG g m k a) 0 m)) (cut i (fun _ => -9) (lM (lnG g m k a) 0 m))
theorem lnR_0 {g : Nat → Int32} {m : Nat} {k a : Int32} : lnR g m k a 0 = lnG g m k a := by rw [lnR, cut_0, cut_0, cut_0, ls3_self]
set_option maxHeartbeats 400000 in
theorem c_M_learner_bad {m : Nat} (k a : Int32) (μ : Me) (hP : ¬ ((0 ≤ k ∧ k < 6) ∧ 0 ≤ a ∧ a ≤ 40)) : CtI m_M_learner 2 [.ref 82, .int k, .int a] μ (-1) μ := by
  refine Ct.of (ls := [.ref 82, .int k, .int a, flr, flr]) rfl (Nat.le_of_ble_eq_true rfl) rfl (fun X => ?_)
  refine r_iload_n 1 d_M_learner_0 rfl rfl ?_
  refine r_iconst 0 d_M_learner_1 rfl ?_
  refine r_iconst 5 d_M_learner_2 rfl ?_
  refine r_callSi (c_M_in _ _ _ _) lk_M_72 d_M_learner_3 rfl rfl (Nat.le_of_ble_eq_true rfl) (by decide) ?_
  refine r_if_eq d_M_learner_6 (fun h6 => ?_) (fun h6 => ?_)
  · refine r_iconst (-1) d_M_learner_19 rfl ?_
    refine r_iret .int d_M_learner_20 rfl rfl ?_
    exact ⟨rfl, rfl⟩
  · refine r_iload_n 2 d_M_learner_9 rfl rfl ?_
    refine r_iconst 0 d_M_learner_10 rfl ?_
    refine r_bipush (40) d_M_learner_11 (by decide) ?_
    refine r_callSi (c_M_in _ _ _ _) lk_M_72 d_M_learner_13 rfl rfl (Nat.le_of_ble_eq_true rfl) (by decide) ?_
    refine r_if_ne d_M_learner_16 (fun h16 => ?_) (fun h16 => ?_)
    · have z1 := bz_p h6
      exact absurd ⟨⟨z1.1, by have := z1.2; grind⟩, bz_p h16⟩ hP
    · refine r_iconst (-1) d_M_learner_19 rfl ?_
      refine r_iret .int d_M_learner_20 rfl rfl ?_
      exact ⟨rfl, rfl⟩
set_option maxHeartbeats 400000 in
theorem c_M_learner_full (k a : Int32) (μ : Me) (hP : (0 ≤ k ∧ k < 6) ∧ 0 ≤ a ∧ a ≤ 40) (hct : μ.1 83 0 = nI 4) : CtI m_M_learner 2 [.ref 82, .int k, .int a] μ (-2) μ := by
  refine Ct.of (ls := [.ref 82, .int k, .int a, flr, flr]) rfl (Nat.le_of_ble_eq_true rfl) rfl (fun X => ?_)
  refine r_iload_n 1 d_M_learner_0 rfl rfl ?_
  refine r_iconst 0 d_M_learner_1 rfl ?_
  refine r_iconst 5 d_M_learner_2 rfl ?_
  refine r_callSi (c_M_in _ _ _ _) lk_M_72 d_M_learner_3 rfl rfl (Nat.le_of_ble_eq_true rfl) (by decide) ?_
  refine r_if_eq d_M_learner_6 (fun h6 => absurd h6 (bzy ⟨hP.1.1, by have := hP.1.2; grind⟩)) (fun h6 => ?_)
  refine r_iload_n 2 d_M_learner_9 rfl rfl ?_
  refine r_iconst 0 d_M_learner_10 rfl ?_
  refine r_bipush (40) d_M_learner_11 (by decide) ?_
  refine r_callSi (c_M_in _ _ _ _) lk_M_72 d_M_learner_13 rfl rfl (Nat.le_of_ble_eq_true rfl) (by decide) ?_
  refine r_if_ne d_M_learner_16 (fun h16 => ?_) (fun h16 => absurd h16 (bzy hP.2))
  refine r_aload_n 0 d_M_learner_21 rfl rfl ?_
  refine r_getR fl_M_7 (by first | with_reducible assumption | rfl) rfl d_M_learner_22 ?_
  refine r_iconst 0 d_M_learner_25 rfl ?_
  refine r_ialdN (j := 0) (by first | with_reducible assumption | rfl) (by first | with_reducible assumption | omega | decide | assumption) d_M_learner_26 ?_
  rw [hct]
  refine r_istore_n 3 [_, _, _, _, _] d_M_learner_27 rfl (by decide) rfl ?_
  refine r_iload_n 3 d_M_learner_28 rfl rfl ?_
  refine r_iconst 4 d_M_learner_29 rfl ?_
  refine r_icmp_ne d_M_learner_30 (fun h30 => absurd rfl h30) (fun h30 => ?_)
  refine r_bipush (-2) d_M_learner_33 (by decide) ?_
  refine r_iret .int d_M_learner_35 rfl rfl ?_
  exact ⟨rfl, rfl⟩
set_option maxHeartbeats 400000 in
theorem c_M_learner {m : Nat} (k a : Int32) (μ : Me) (hP : (0 ≤ k ∧ k < 6) ∧ 0 ≤ a ∧ a ≤ 40) (hm : m < 4) (hct : μ.1 83 0 = nI m) (hat : μ.1 82 1 = nI 0) : CtI m_M_learner 2 [.ref 82, .int k, .int a] μ (nI m) (rI μ 83 (upd (lnR (μ.1 83) m k a 36) 0 (nI (m + 1)))) := by
  refine Ct.of (ls := [.ref 82, .int k, .int a, flr, flr]) rfl (Nat.le_of_ble_eq_true rfl) rfl (fun X => ?_)
  have hat1 : ∀ f, (rI μ 83 f).1 82 1 = nI 0 := fun f => by rw [rI_ne (by decide), hat]
  refine r_iload_n 1 d_M_learner_0 rfl rfl ?_
  refine r_iconst 0 d_M_learner_1 rfl ?_
  refine r_iconst 5 d_M_learner_2 rfl ?_
  refine r_callSi (c_M_in _ _ _ _) lk_M_72 d_M_learner_3 rfl rfl (Nat.le_of_ble_eq_true rfl) (by decide) ?_
  refine r_if_eq d_M_learner_6 (fun h6 => absurd h6 (bzy ⟨hP.1.1, by have := hP.1.2; grind⟩)) (fun h6 => ?_)
  refine r_iload_n 2 d_M_learner_9 rfl rfl ?_
  refine r_iconst 0 d_M_learner_10 rfl ?_
  refine r_bipush (40) d_M_learner_11 (by decide) ?_
  refine r_callSi (c_M_in _ _ _ _) lk_M_72 d_M_learner_13 rfl rfl (Nat.le_of_ble_eq_true rfl) (by decide) ?_
  refine r_if_ne d_M_learner_16 (fun h16 => ?_) (fun h16 => absurd h16 (bzy hP.2))
  refine r_aload_n 0 d_M_learner_21 rfl rfl ?_
  refine r_getR fl_M_7 (by first | with_reducible assumption | rfl) rfl d_M_learner_22 ?_
  refine r_iconst 0 d_M_learner_25 rfl ?_
  refine r_ialdN (j := 0) (by first | with_reducible assumption | rfl) (by first | with_reducible assumption | omega | decide | assumption) d_M_learner_26 ?_
  rw [hct]
  refine r_istore_n 3 [_, _, _, _, _] d_M_learner_27 rfl (by decide) rfl ?_
  refine r_iload_n 3 d_M_learner_28 rfl rfl ?_
  refine r_iconst 4 d_M_learner_29 rfl ?_
  refine r_icmp_ne d_M_learner_30 (fun h30 => ?_) (fun h30 => absurd h30 (fun z => absurd ((nI_eq (b := 4) (by omega) (by decide)).mp z) (by omega)))
  refine r_aload_n 0 d_M_learner_36 rfl rfl ?_
  refine r_getR fl_M_7 (by first | with_reducible assumption | rfl) rfl d_M_learner_37 ?_
  refine r_iconst 2 d_M_learner_40 rfl ?_
  refine r_bipush (110) d_M_learner_41 (by decide) ?_
  refine r_iload_n 3 d_M_learner_43 rfl rfl ?_
  refine r_imul d_M_learner_44 ?_
  refine r_iadd d_M_learner_45 ?_
  rw [mul110, two_add]
  refine r_iload_n 1 d_M_learner_46 rfl rfl ?_
  refine r_iastN (by first | with_reducible assumption | rfl) (show 2 + 110 * m < 884 by omega) d_M_learner_47 ?_
  refine r_aload_n 0 d_M_learner_48 rfl rfl ?_
  refine r_getR fl_M_7 (by first | with_reducible assumption | rfl) rfl d_M_learner_49 ?_
  refine r_iconst 2 d_M_learner_52 rfl ?_
  refine r_bipush (110) d_M_learner_53 (by decide) ?_
  refine r_iload_n 3 d_M_learner_55 rfl rfl ?_
  refine r_imul d_M_learner_56 ?_
  refine r_iadd d_M_learner_57 ?_
  refine r_iconst 1 d_M_learner_58 rfl ?_
  refine r_iadd d_M_learner_59 ?_
  rw [mul110, two_add, ← nI_succ]
  refine r_iload_n 2 d_M_learner_60 rfl rfl ?_
  refine r_iastN (by first | with_reducible assumption | rfl) (show 2 + 110 * m + 1 < 884 by omega) d_M_learner_61 ?_
  refine r_iconst 0 d_M_learner_62 rfl ?_
  refine r_istore 4 [_, _, _, _, _] d_M_learner_63 (by decide) rfl ?_
  refine lpN 36 (fun i (μ1 : Me) => Wa X m_M_learner 2 65 [.ref 82, .int k, .int a, .int (nI m), .int (nI i)] [] μ1 _) (fun i μ1 => μ1 = rI μ 83 (lnR (μ.1 83) m k a i)) ?_ 0 _ (Nat.zero_le _) (by rw [lnR_0, uI, uI, rI_rI, rI_eq, lnG])
  intro i μ1 hi hv hk
  subst hv
  refine r_iload 4 d_M_learner_65 rfl ?_
  refine r_bipush (36) d_M_learner_67 (by decide) ?_
  refine r_icmp_ge d_M_learner_69 (fun h69 => ?_) (fun h69 => ?_)
  · have hge := n_le (a := 36) h69 rfl rfl (by decide) (by omega)
    obtain rfl : i = 36 := by omega
    refine r_aload_n 0 d_M_learner_126 rfl rfl ?_
    refine r_getR fl_M_7 (by first | with_reducible assumption | rfl) rfl d_M_learner_127 ?_
    refine r_iconst 0 d_M_learner_130 rfl ?_
    rw [show (0 : Int32) = nI 0 from rfl]
    refine r_dup2 d_M_learner_131 rfl rfl ?_
    refine r_ialdN (by first | with_reducible assumption | rfl) (show 0 < 884 by decide) d_M_learner_132 ?_
    rw [rI_eq, show lnR (μ.1 83) m k a 36 0 = nI m by rw [lnR, ls3_out (by omega), lnG, upd, if_neg (by omega), upd, if_neg (by omega), hct]]
    refine r_iconst 1 d_M_learner_133 rfl ?_
    refine r_iadd d_M_learner_134 ?_
    refine r_iastN (by first | with_reducible assumption | rfl) (show 0 < 884 by decide) d_M_learner_135 ?_
    rw [uI_rI, ← nI_succ]
    refine r_iload_n 3 d_M_learner_136 rfl rfl ?_
    refine r_iret .int d_M_learner_137 rfl rfl ?_
    exact ⟨rfl, rfl⟩
  · have hli : i < 36 := n_lt (a := 36) h69 rfl rfl (by decide) (by omega)
    refine r_aload_n 0 d_M_learner_72 rfl rfl ?_
    refine r_getR fl_M_7 (by first | with_reducible assumption | rfl) rfl d_M_learner_73 ?_
    refine r_aload_n 0 d_M_learner_76 rfl rfl ?_
    refine r_iload_n 3 d_M_learner_77 rfl rfl ?_
    refine r_iload 4 d_M_learner_78 rfl ?_
    refine r_callVi (c_M_place (A := 0) _ (hat1 _)) lk_M_109 (by first | with_reducible assumption | rfl) d_M_learner_80 rfl rfl (Nat.le_of_ble_eq_true rfl) (by decide) ?_
    refine r_iload 4 d_M_learner_83 rfl ?_
    refine r_callSi (c_M_firmAtFirst hli _) lk_M_98 d_M_learner_85 rfl rfl (Nat.le_of_ble_eq_true rfl) (by decide) ?_
    refine r_iastN (by first | with_reducible assumption | rfl) (by first | with_reducible assumption | omega | decide | assumption) d_M_learner_88 ?_
    rw [uI_rI]
    refine r_aload_n 0 d_M_learner_89 rfl rfl ?_
    refine r_getR fl_M_7 (by first | with_reducible assumption | rfl) rfl d_M_learner_90 ?_
    refine r_aload_n 0 d_M_learner_93 rfl rfl ?_
    refine r_iload_n 3 d_M_learner_94 rfl rfl ?_
    refine r_iload 4 d_M_learner_95 rfl ?_
    refine r_callVi (c_M_place (A := 0) _ (hat1 _)) lk_M_109 (by first | with_reducible assumption | rfl) d_M_learner_97 rfl rfl (Nat.le_of_ble_eq_true rfl) (by decide) ?_
    refine r_iconst 1 d_M_learner_100 rfl ?_
    refine r_iadd d_M_learner_101 ?_
    rw [← nI_succ]
    refine r_iconst 0 d_M_learner_102 rfl ?_
    refine r_iastN (by first | with_reducible assumption | rfl) (show 0 + 4 + 110 * m + 3 * i + 1 < 884 by omega) d_M_learner_103 ?_
    rw [uI_rI]
    refine r_aload_n 0 d_M_learner_104 rfl rfl ?_
    refine r_getR fl_M_7 (by first | with_reducible assumption | rfl) rfl d_M_learner_105 ?_
    refine r_aload_n 0 d_M_learner_108 rfl rfl ?_
    refine r_iload_n 3 d_M_learner_109 rfl rfl ?_
    refine r_iload 4 d_M_learner_110 rfl ?_
    refine r_callVi (c_M_place (A := 0) _ (hat1 _)) lk_M_109 (by first | with_reducible assumption | rfl) d_M_learner_112 rfl rfl (Nat.le_of_ble_eq_true rfl) (by decide) ?_
    refine r_iconst 2 d_M_learner_115 rfl ?_
    refine r_iadd d_M_learner_116 ?_
    rw [add2]
    refine r_bipush (-9) d_M_learner_117 (by decide) ?_
    refine r_iastN (by first | with_reducible assumption | rfl) (show 0 + 4 + 110 * m + 3 * i + 2 < 884 by omega) d_M_learner_119 ?_
    rw [uI_rI]
    first | refine r_iincN 4 [_, _, _, _, _] d_M_learner_120 (by decide) rfl rfl ?_ | refine r_iinc 4 [_, _, _, _, _] (1) d_M_learner_120 (by decide) (by decide) rfl rfl ?_
    refine r_goto d_M_learner_123 ?_
    refine hk _ hli ?_
    rw [lnR, lnR, ← ls3_cut hli]
set_option maxHeartbeats 400000 in
theorem c_M_many (w : Int32) (μ : Me) : CtI m_M_many 0 [.ref 82, .int w] μ (if w = 0 then μ.1 83 0 else if w = 1 then μ.1 82 18 else if w = 2 then μ.1 82 23 else if w = 3 then μ.1 82 11 else if w = 4 then μ.1 82 35 else -1) μ := by
  refine Ct.of (ls := [.ref 82, .int w]) rfl (Nat.le_of_ble_eq_true rfl) rfl (fun X => ?_)
  refine r_iload_n 1 d_M_many_0 rfl rfl ?_
  refine r_ts d_M_many_1 (List.forall_mem_cons.mpr ⟨fun h1 => ?_, List.forall_mem_cons.mpr ⟨fun h1 => ?_, List.forall_mem_cons.mpr ⟨fun h1 => ?_, List.forall_mem_cons.mpr ⟨fun h1 => ?_, List.forall_mem_cons.mpr ⟨fun h1 => ?_, fun _ h => absurd h List.not_mem_nil⟩⟩⟩⟩⟩) (fun h1 => ?_)
  · refine r_aload_n 0 d_M_many_36 rfl rfl ?_
    refine r_getR fl_M_7 (by first | with_reducible assumption | rfl) rfl d_M_many_37 ?_
    refine r_iconst 0 d_M_many_40 rfl ?_
    refine r_ialdN (j := 0) (by first | with_reducible assumption | rfl) (by first | with_reducible assumption | omega | decide | assumption) d_M_many_41 ?_
    refine r_iret .int d_M_many_42 rfl rfl ?_
    refine ⟨?_, rfl⟩
    first
      | (subst h1; rfl)
      | (rw [if_neg (h1 (0, 36) (by simp)), if_neg (h1 (1, 43) (by simp)), if_neg (h1 (2, 48) (by simp)), if_neg (h1 (3, 53) (by simp)), if_neg (h1 (4, 58) (by simp))])
  · refine r_aload_n 0 d_M_many_43 rfl rfl ?_
    refine r_getI fl_M_288 (by first | with_reducible assumption | rfl) rfl d_M_many_44 ?_
    refine r_iret .int d_M_many_47 rfl rfl ?_
    refine ⟨?_, rfl⟩
    first
      | (subst h1; rfl)
      | (rw [if_neg (h1 (0, 36) (by simp)), if_neg (h1 (1, 43) (by simp)), if_neg (h1 (2, 48) (by simp)), if_neg (h1 (3, 53) (by simp)), if_neg (h1 (4, 58) (by simp))])
  · refine r_aload_n 0 d_M_many_48 rfl rfl ?_
    refine r_getI fl_M_301 (by first | with_reducible assumption | rfl) rfl d_M_many_49 ?_
    refine r_iret .int d_M_many_52 rfl rfl ?_
    refine ⟨?_, rfl⟩
    first
      | (subst h1; rfl)
      | (rw [if_neg (h1 (0, 36) (by simp)), if_neg (h1 (1, 43) (by simp)), if_neg (h1 (2, 48) (by simp)), if_neg (h1 (3, 53) (by simp)), if_neg (h1 (4, 58) (by simp))])
  · refine r_aload_n 0 d_M_many_53 rfl rfl ?_
    refine r_getI fl_M_225 (by first | with_reducible assumption | rfl) rfl d_M_many_54 ?_
    refine r_iret .int d_M_many_57 rfl rfl ?_
    refine ⟨?_, rfl⟩
    first
      | (subst h1; rfl)
      | (rw [if_neg (h1 (0, 36) (by simp)), if_neg (h1 (1, 43) (by simp)), if_neg (h1 (2, 48) (by simp)), if_neg (h1 (3, 53) (by simp)), if_neg (h1 (4, 58) (by simp))])
  · refine r_aload_n 0 d_M_many_58 rfl rfl ?_
    refine r_getI fl_M_323 (by first | with_reducible assumption | rfl) rfl d_M_many_59 ?_
    refine r_iret .int d_M_many_62 rfl rfl ?_
    refine ⟨?_, rfl⟩
    first
      | (subst h1; rfl)
      | (rw [if_neg (h1 (0, 36) (by simp)), if_neg (h1 (1, 43) (by simp)), if_neg (h1 (2, 48) (by simp)), if_neg (h1 (3, 53) (by simp)), if_neg (h1 (4, 58) (by simp))])
  · refine r_iconst (-1) d_M_many_63 rfl ?_
    refine r_iret .int d_M_many_64 rfl rfl ?_
    refine ⟨?_, rfl⟩
    first
      | (subst h1; rfl)
      | (rw [if_neg (h1 (0, 36) (by simp)), if_neg (h1 (1, 43) (by simp)), if_neg (h1 (2, 48) (by simp)), if_neg (h1 (3, 53) (by simp)), if_neg (h1 (4, 58) (by simp))])
set_option maxHeartbeats 400000 in
theorem c_M_trace {n : Nat} (hn : n ≤ 30) (i : Int32) (μ : Me) (hct : μ.1 82 35 = nI n) : CtI m_M_trace 1 [.ref 82, .int i] μ (if 0 ≤ i ∧ i < nI n then μ.1 99 i.toNatClampNeg else -3) μ := by
  refine Ct.of (ls := [.ref 82, .int i]) rfl (Nat.le_of_ble_eq_true rfl) rfl (fun X => ?_)
  by_cases hP : 0 ≤ i ∧ i < nI n
  · rw [if_pos hP]
    obtain ⟨j, hj, rfl⟩ := nI_of (Int32.not_lt.mpr hP.1)
    have hjn : j < n := (nI_ltI hj (by omega)).mp hP.2
    rw [nI_clamp hj]
    refine r_iload_n 1 d_M_trace_0 rfl rfl ?_
    refine r_iconst 0 d_M_trace_1 rfl ?_
    refine r_aload_n 0 d_M_trace_2 rfl rfl ?_
    refine r_getI fl_M_323 (by first | with_reducible assumption | rfl) rfl d_M_trace_3 ?_
    refine r_iconst 1 d_M_trace_6 rfl ?_
    refine r_isub d_M_trace_7 ?_
    rw [hct]
    refine r_callSi (c_M_in _ _ _ _) lk_M_72 d_M_trace_8 rfl rfl (Nat.le_of_ble_eq_true rfl) (by decide) ?_
    refine r_if_eq d_M_trace_11 (fun h11 => absurd h11 (bzy ⟨hP.1, (le_pred (by omega)).mpr hP.2⟩)) (fun h11 => ?_)
    refine r_aload_n 0 d_M_trace_14 rfl rfl ?_
    refine r_getR fl_M_63 (by first | with_reducible assumption | rfl) rfl d_M_trace_15 ?_
    refine r_iload_n 1 d_M_trace_18 rfl rfl ?_
    refine r_ialdN (by first | with_reducible assumption | rfl) (show j < 30 by omega) d_M_trace_19 ?_
    refine r_goto d_M_trace_20 ?_
    refine r_iret .int d_M_trace_25 rfl rfl ?_
    exact ⟨rfl, rfl⟩
  · rw [if_neg hP]
    refine r_iload_n 1 d_M_trace_0 rfl rfl ?_
    refine r_iconst 0 d_M_trace_1 rfl ?_
    refine r_aload_n 0 d_M_trace_2 rfl rfl ?_
    refine r_getI fl_M_323 (by first | with_reducible assumption | rfl) rfl d_M_trace_3 ?_
    refine r_iconst 1 d_M_trace_6 rfl ?_
    refine r_isub d_M_trace_7 ?_
    rw [hct]
    refine r_callSi (c_M_in _ _ _ _) lk_M_72 d_M_trace_8 rfl rfl (Nat.le_of_ble_eq_true rfl) (by decide) ?_
    refine r_if_eq d_M_trace_11 (fun h11 => ?_) (fun h11 => absurd (bzn (fun z => hP ⟨z.1, (le_pred (by omega)).mp z.2⟩)) h11)
    refine r_bipush (-3) d_M_trace_23 (by decide) ?_
    refine r_iret .int d_M_trace_25 rfl rfl ?_
    exact ⟨rfl, rfl⟩
set_option maxHeartbeats 400000 in
theorem c_M_item_bad (i w : Int32) (μ : Me) (hw : ¬ (0 ≤ w ∧ w ≤ 2)) : CtI m_M_item 1 [.ref 82, .int i, .int w] μ (-1) μ := by
  refine Ct.of (ls := [.ref 82, .int i, .int w]) rfl (Nat.le_of_ble_eq_true rfl) rfl (fun X => ?_)
  refine r_iload_n 2 d_M_item_0 rfl rfl ?_
  refine r_iconst 0 d_M_item_1 rfl ?_
  refine r_iconst 2 d_M_item_2 rfl ?_
  refine r_callSi (c_M_in _ _ _ _) lk_M_72 d_M_item_3 rfl rfl (Nat.le_of_ble_eq_true rfl) (by decide) ?_
  refine r_if_ne d_M_item_6 (fun h6 => absurd (bzn hw) h6) (fun h6 => ?_)
  refine r_iconst (-1) d_M_item_9 rfl ?_
  refine r_iret .int d_M_item_10 rfl rfl ?_
  exact ⟨rfl, rfl⟩
set_option maxHeartbeats 400000 in
theorem c_M_item_no {n : Nat} (hn : n ≤ 12) (i w : Int32) (μ : Me) (hw : 0 ≤ w ∧ w ≤ 2) (hct : μ.1 82 18 = nI n) (hi : ¬ (0 ≤ i ∧ i < nI n)) : CtI m_M_item 1 [.ref 82, .int i, .int w] μ (-3) μ := by
  refine Ct.of (ls := [.ref 82, .int i, .int w]) rfl (Nat.le_of_ble_eq_true rfl) rfl (fun X => ?_)
  refine r_iload_n 2 d_M_item_0 rfl rfl ?_
  refine r_iconst 0 d_M_item_1 rfl ?_
  refine r_iconst 2 d_M_item_2 rfl ?_
  refine r_callSi (c_M_in _ _ _ _) lk_M_72 d_M_item_3 rfl rfl (Nat.le_of_ble_eq_true rfl) (by decide) ?_
  refine r_if_ne d_M_item_6 (fun h6 => ?_) (fun h6 => absurd h6 (bzy hw))
  refine r_iload_n 1 d_M_item_11 rfl rfl ?_
  refine r_iconst 0 d_M_item_12 rfl ?_
  refine r_aload_n 0 d_M_item_13 rfl rfl ?_
  refine r_getI fl_M_288 (by first | with_reducible assumption | rfl) rfl d_M_item_14 ?_
  refine r_iconst 1 d_M_item_17 rfl ?_
  refine r_isub d_M_item_18 ?_
  rw [hct]
  refine r_callSi (c_M_in _ _ _ _) lk_M_72 d_M_item_19 rfl rfl (Nat.le_of_ble_eq_true rfl) (by decide) ?_
  refine r_if_eq d_M_item_22 (fun h22 => ?_) (fun h22 => absurd (bzn (fun z => hi ⟨z.1, (le_pred (by omega)).mp z.2⟩)) h22)
  refine r_bipush (-3) d_M_item_38 (by decide) ?_
  refine r_iret .int d_M_item_40 rfl rfl ?_
  exact ⟨rfl, rfl⟩
set_option maxHeartbeats 400000 in
theorem c_M_item {n i w : Nat} (hn : n ≤ 12) (hi : i < n) (hw : w < 3) (μ : Me) (hct : μ.1 82 18 = nI n) : CtI m_M_item 1 [.ref 82, .int (nI i), .int (nI w)] μ (μ.1 89 (3 * i + w)) μ := by
  refine Ct.of (ls := [.ref 82, .int (nI i), .int (nI w)]) rfl (Nat.le_of_ble_eq_true rfl) rfl (fun X => ?_)
  refine r_iload_n 2 d_M_item_0 rfl rfl ?_
  refine r_iconst 0 d_M_item_1 rfl ?_
  refine r_iconst 2 d_M_item_2 rfl ?_
  refine r_callSi (c_M_in _ _ _ _) lk_M_72 d_M_item_3 rfl rfl (Nat.le_of_ble_eq_true rfl) (by decide) ?_
  refine r_if_ne d_M_item_6 (fun h6 => ?_) (fun h6 => absurd h6 (bzy ⟨nI_pos' (by omega), nI_le (b := 2) (by omega) (by decide)⟩))
  refine r_iload_n 1 d_M_item_11 rfl rfl ?_
  refine r_iconst 0 d_M_item_12 rfl ?_
  refine r_aload_n 0 d_M_item_13 rfl rfl ?_
  refine r_getI fl_M_288 (by first | with_reducible assumption | rfl) rfl d_M_item_14 ?_
  refine r_iconst 1 d_M_item_17 rfl ?_
  refine r_isub d_M_item_18 ?_
  rw [hct]
  refine r_callSi (c_M_in _ _ _ _) lk_M_72 d_M_item_19 rfl rfl (Nat.le_of_ble_eq_true rfl) (by decide) ?_
  refine r_if_eq d_M_item_22 (fun h22 => absurd h22 (bzy ⟨nI_pos' (by omega), (le_pred (by omega)).mpr (nI_lt hi (by omega))⟩)) (fun h22 => ?_)
  refine r_aload_n 0 d_M_item_25 rfl rfl ?_
  refine r_getR fl_M_32 (by first | with_reducible assumption | rfl) rfl d_M_item_26 ?_
  refine r_iconst 3 d_M_item_29 rfl ?_
  refine r_iload_n 1 d_M_item_30 rfl rfl ?_
  refine r_imul d_M_item_31 ?_
  refine r_iload_n 2 d_M_item_32 rfl rfl ?_
  refine r_iadd d_M_item_33 ?_
  rw [mul3, nI_add]
  refine r_ialdN (by first | with_reducible assumption | rfl) (show 3 * i + w < 36 by omega) d_M_item_34 ?_
  refine r_goto d_M_item_35 ?_
  refine r_iret .int d_M_item_40 rfl rfl ?_
  exact ⟨rfl, rfl⟩
set_option maxHeartbeats 400000 in
theorem c_M_isRow {n : Nat} (hn : n ≤ 12) (i w : Int32) (μ : Me) (hct : μ.1 82 23 = nI n) : CtI m_M_isRow 1 [.ref 82, .int i, .int w] μ (bz ((0 ≤ i ∧ i < nI n) ∧ 0 ≤ w ∧ w ≤ 2)) μ := by
  refine Ct.of (ls := [.ref 82, .int i, .int w]) rfl (Nat.le_of_ble_eq_true rfl) rfl (fun X => ?_)
  have key : (0 ≤ i ∧ i ≤ nI n - 1) ↔ (0 ≤ i ∧ i < nI n) := and_congr_right (fun _ => le_pred (by omega))
  refine r_iload_n 1 d_M_isRow_0 rfl rfl ?_
  refine r_iconst 0 d_M_isRow_1 rfl ?_
  refine r_aload_n 0 d_M_isRow_2 rfl rfl ?_
  refine r_getI fl_M_301 (by first | with_reducible assumption | rfl) rfl d_M_isRow_3 ?_
  refine r_iconst 1 d_M_isRow_6 rfl ?_
  refine r_isub d_M_isRow_7 ?_
  rw [hct]
  refine r_callSi (c_M_in _ _ _ _) lk_M_72 d_M_isRow_8 rfl rfl (Nat.le_of_ble_eq_true rfl) (by decide) ?_
  refine r_if_eq d_M_isRow_11 (fun h11 => ?_) (fun h11 => ?_)
  · refine r_iconst 0 d_M_isRow_27 rfl ?_
    refine r_iret .boolean d_M_isRow_28 rfl (by first | decide | assumption) ?_
    refine ⟨?_, rfl⟩
    first
      | (have z1 := bz_p h11; have z2 := bz_p h20; rw [← bz_t ⟨key.mp z1, z2⟩])
      | (have z2 := bz_np h20; rw [← bz_f (fun z => z2 z.2)])
      | (have z1 := bz_np h11; rw [← bz_f (fun z => z1 (key.mpr z.1))])
  · refine r_iload_n 2 d_M_isRow_14 rfl rfl ?_
    refine r_iconst 0 d_M_isRow_15 rfl ?_
    refine r_iconst 2 d_M_isRow_16 rfl ?_
    refine r_callSi (c_M_in _ _ _ _) lk_M_72 d_M_isRow_17 rfl rfl (Nat.le_of_ble_eq_true rfl) (by decide) ?_
    refine r_if_eq d_M_isRow_20 (fun h20 => ?_) (fun h20 => ?_)
    · refine r_iconst 0 d_M_isRow_27 rfl ?_
      refine r_iret .boolean d_M_isRow_28 rfl (by first | decide | assumption) ?_
      refine ⟨?_, rfl⟩
      first
        | (have z1 := bz_p h11; have z2 := bz_p h20; rw [← bz_t ⟨key.mp z1, z2⟩])
        | (have z2 := bz_np h20; rw [← bz_f (fun z => z2 z.2)])
        | (have z1 := bz_np h11; rw [← bz_f (fun z => z1 (key.mpr z.1))])
    · refine r_iconst 1 d_M_isRow_23 rfl ?_
      refine r_goto d_M_isRow_24 ?_
      refine r_iret .boolean d_M_isRow_28 rfl (by first | decide | assumption) ?_
      refine ⟨?_, rfl⟩
      first
        | (have z1 := bz_p h11; have z2 := bz_p h20; rw [← bz_t ⟨key.mp z1, z2⟩])
        | (have z2 := bz_np h20; rw [← bz_f (fun z => z2 z.2)])
        | (have z1 := bz_np h11; rw [← bz_f (fun z => z1 (key.mpr z.1))])
set_option maxHeartbeats 400000 in
theorem c_M_row_no {n : Nat} (hn : n ≤ 12) (i w : Int32) (μ : Me) (hct : μ.1 82 23 = nI n) (hP : ¬ ((0 ≤ i ∧ i < nI n) ∧ 0 ≤ w ∧ w ≤ 2)) : CtI m_M_row 2 [.ref 82, .int i, .int w] μ (-99) μ := by
  refine Ct.of (ls := [.ref 82, .int i, .int w]) rfl (Nat.le_of_ble_eq_true rfl) rfl (fun X => ?_)
  refine r_aload_n 0 d_M_row_0 rfl rfl ?_
  refine r_iload_n 1 d_M_row_1 rfl rfl ?_
  refine r_iload_n 2 d_M_row_2 rfl rfl ?_
  refine r_callVi (c_M_isRow hn _ _ _ hct) lk_M_304 (by first | with_reducible assumption | rfl) d_M_row_3 rfl rfl (Nat.le_of_ble_eq_true rfl) (by decide) ?_
  refine r_if_eq d_M_row_6 (fun h6 => ?_) (fun h6 => absurd (bzn hP) h6)
  refine r_bipush (-99) d_M_row_22 (by decide) ?_
  refine r_iret .int d_M_row_24 rfl rfl ?_
  exact ⟨rfl, rfl⟩
set_option maxHeartbeats 400000 in
theorem c_M_row {n i w : Nat} (hn : n ≤ 12) (hi : i < n) (hw : w < 3) (μ : Me) (hct : μ.1 82 23 = nI n) : CtI m_M_row 2 [.ref 82, .int (nI i), .int (nI w)] μ (μ.1 91 (3 * i + w)) μ := by
  refine Ct.of (ls := [.ref 82, .int (nI i), .int (nI w)]) rfl (Nat.le_of_ble_eq_true rfl) rfl (fun X => ?_)
  refine r_aload_n 0 d_M_row_0 rfl rfl ?_
  refine r_iload_n 1 d_M_row_1 rfl rfl ?_
  refine r_iload_n 2 d_M_row_2 rfl rfl ?_
  refine r_callVi (c_M_isRow hn _ _ _ hct) lk_M_304 (by first | with_reducible assumption | rfl) d_M_row_3 rfl rfl (Nat.le_of_ble_eq_true rfl) (by decide) ?_
  refine r_if_eq d_M_row_6 (fun h6 => absurd h6 (bzy ⟨⟨nI_pos' (by omega), nI_lt hi (by omega)⟩, nI_pos' (by omega), nI_le (b := 2) (by omega) (by decide)⟩)) (fun h6 => ?_)
  refine r_aload_n 0 d_M_row_9 rfl rfl ?_
  refine r_getR fl_M_38 (by first | with_reducible assumption | rfl) rfl d_M_row_10 ?_
  refine r_iconst 3 d_M_row_13 rfl ?_
  refine r_iload_n 1 d_M_row_14 rfl rfl ?_
  refine r_imul d_M_row_15 ?_
  refine r_iload_n 2 d_M_row_16 rfl rfl ?_
  refine r_iadd d_M_row_17 ?_
  rw [mul3, nI_add]
  refine r_ialdN (by first | with_reducible assumption | rfl) (show 3 * i + w < 36 by omega) d_M_row_18 ?_
  refine r_goto d_M_row_19 ?_
  refine r_iret .int d_M_row_24 rfl rfl ?_
  exact ⟨rfl, rfl⟩
set_option maxHeartbeats 400000 in
theorem c_M_alterRow_no {n : Nat} (hn : n ≤ 12) (i w v : Int32) (μ : Me) (hct : μ.1 82 23 = nI n) (hP : ¬ ((0 ≤ i ∧ i < nI n) ∧ 0 ≤ w ∧ w ≤ 2)) : CtI m_M_alterRow 2 [.ref 82, .int i, .int w, .int v] μ (-99) μ := by
  refine Ct.of (ls := [.ref 82, .int i, .int w, .int v, flr]) rfl (Nat.le_of_ble_eq_true rfl) rfl (fun X => ?_)
  refine r_aload_n 0 d_M_alterRow_0 rfl rfl ?_
  refine r_iload_n 1 d_M_alterRow_1 rfl rfl ?_
  refine r_iload_n 2 d_M_alterRow_2 rfl rfl ?_
  refine r_callVi (c_M_isRow hn _ _ _ hct) lk_M_304 (by first | with_reducible assumption | rfl) d_M_alterRow_3 rfl rfl (Nat.le_of_ble_eq_true rfl) (by decide) ?_
  refine r_if_ne d_M_alterRow_6 (fun h6 => absurd (bzn hP) h6) (fun h6 => ?_)
  refine r_bipush (-99) d_M_alterRow_9 (by decide) ?_
  refine r_iret .int d_M_alterRow_11 rfl rfl ?_
  exact ⟨rfl, rfl⟩
set_option maxHeartbeats 400000 in
theorem c_M_alterRow {n i w : Nat} (hn : n ≤ 12) (hi : i < n) (hw : w < 3) (v : Int32) (μ : Me) (hct : μ.1 82 23 = nI n) : CtI m_M_alterRow 2 [.ref 82, .int (nI i), .int (nI w), .int v] μ (μ.1 91 (3 * i + w)) (uI μ 91 (3 * i + w) v) := by
  refine Ct.of (ls := [.ref 82, .int (nI i), .int (nI w), .int v, flr]) rfl (Nat.le_of_ble_eq_true rfl) rfl (fun X => ?_)
  refine r_aload_n 0 d_M_alterRow_0 rfl rfl ?_
  refine r_iload_n 1 d_M_alterRow_1 rfl rfl ?_
  refine r_iload_n 2 d_M_alterRow_2 rfl rfl ?_
  refine r_callVi (c_M_isRow hn _ _ _ hct) lk_M_304 (by first | with_reducible assumption | rfl) d_M_alterRow_3 rfl rfl (Nat.le_of_ble_eq_true rfl) (by decide) ?_
  refine r_if_ne d_M_alterRow_6 (fun h6 => ?_) (fun h6 => absurd h6 (bzy ⟨⟨nI_pos' (by omega), nI_lt hi (by omega)⟩, nI_pos' (by omega), nI_le (b := 2) (by omega) (by decide)⟩))
  refine r_aload_n 0 d_M_alterRow_12 rfl rfl ?_
  refine r_getR fl_M_38 (by first | with_reducible assumption | rfl) rfl d_M_alterRow_13 ?_
  refine r_iconst 3 d_M_alterRow_16 rfl ?_
  refine r_iload_n 1 d_M_alterRow_17 rfl rfl ?_
  refine r_imul d_M_alterRow_18 ?_
  refine r_iload_n 2 d_M_alterRow_19 rfl rfl ?_
  refine r_iadd d_M_alterRow_20 ?_
  rw [mul3, nI_add]
  refine r_ialdN (by first | with_reducible assumption | rfl) (show 3 * i + w < 36 by omega) d_M_alterRow_21 ?_
  refine r_istore 4 [_, _, _, _, _] d_M_alterRow_22 (by decide) rfl ?_
  refine r_aload_n 0 d_M_alterRow_24 rfl rfl ?_
  refine r_getR fl_M_38 (by first | with_reducible assumption | rfl) rfl d_M_alterRow_25 ?_
  refine r_iconst 3 d_M_alterRow_28 rfl ?_
  refine r_iload_n 1 d_M_alterRow_29 rfl rfl ?_
  refine r_imul d_M_alterRow_30 ?_
  refine r_iload_n 2 d_M_alterRow_31 rfl rfl ?_
  refine r_iadd d_M_alterRow_32 ?_
  rw [mul3, nI_add]
  refine r_iload_n 3 d_M_alterRow_33 rfl rfl ?_
  refine r_iastN (by first | with_reducible assumption | rfl) (show 3 * i + w < 36 by omega) d_M_alterRow_34 ?_
  refine r_iload 4 d_M_alterRow_35 rfl ?_
  refine r_iret .int d_M_alterRow_37 rfl rfl ?_
  exact ⟨rfl, rfl⟩
theorem mul40 (m : Nat) : (40 : Int32) * nI m = nI (40 * m) := pk_mul 40 m
def zG (h : Nat → Int64) (j n : Nat) : Nat → Int64 := fun i => if 40 * j ≤ i ∧ i < 40 * j + n then 0 else h i
theorem zG_0 {h : Nat → Int64} {j : Nat} : zG h j 0 = h := by funext i; rw [zG, if_neg (by omega)]
theorem zG_s {h : Nat → Int64} {j n : Nat} : vp_updL (zG h j n) (40 * j + n) 0 = zG h j (n + 1) := by
  funext i
  by_cases e : i = 40 * j + n
  · rw [vp_updL, if_pos e, zG, if_pos (by omega)]
  · rw [vp_updL, if_neg e, zG, zG]
    by_cases h1 : 40 * j ≤ i ∧ i < 40 * j + n
    · rw [if_pos h1, if_pos (by omega)]
    · rw [if_neg h1, if_neg (by omega)]
set_option maxHeartbeats 400000 in
theorem c_M_sheet_bad {s k n : Int32} (hP : ¬ ((0 ≤ s ∧ s < 4) ∧ -1 ≤ k ∧ k ≤ 3)) (μ : Me) : CtI m_M_sheet 2 [.ref 82, .int s, .int k, .int n] μ (-1) μ := by
  refine Ct.of (ls := [.ref 82, .int s, .int k, .int n, flr]) rfl (Nat.le_of_ble_eq_true rfl) rfl (fun X => ?_)
  refine r_iload_n 1 d_M_sheet_0 rfl rfl ?_
  refine r_callSi (c_M_isShelf _ _) lk_M_308 d_M_sheet_1 rfl rfl (Nat.le_of_ble_eq_true rfl) (by decide) ?_
  refine r_if_eq d_M_sheet_4 (fun h4 => ?_) (fun h4 => ?_)
  · refine r_iconst (-1) d_M_sheet_26 rfl ?_
    refine r_iret .int d_M_sheet_27 rfl rfl ?_
    exact ⟨rfl, rfl⟩
  · refine r_iload_n 2 d_M_sheet_7 rfl rfl ?_
    refine r_iconst (-1) d_M_sheet_8 rfl ?_
    refine r_iconst 3 d_M_sheet_9 rfl ?_
    refine r_callSi (c_M_in _ _ _ _) lk_M_72 d_M_sheet_10 rfl rfl (Nat.le_of_ble_eq_true rfl) (by decide) ?_
    refine r_if_eq d_M_sheet_13 (fun h13 => ?_) (fun h13 => ?_)
    · refine r_iconst (-1) d_M_sheet_26 rfl ?_
      refine r_iret .int d_M_sheet_27 rfl rfl ?_
      exact ⟨rfl, rfl⟩
    · exact absurd ⟨bz_p h4, bz_p h13⟩ hP
set_option maxHeartbeats 400000 in
theorem c_M_sheet_loop (X : Nat × (Nat → Int32)) (j : Nat) (hj : j < 4) (k n : Int32) (μ : Me) : Wa X m_M_sheet 2 64 [.ref 82, .int (nI j), .int k, .int n, .int (nI 0)] [] μ (fun r μ' => r = some (.int 1) ∧ μ' = rL μ 95 (zG (μ.2 95) j 40)) := by
  refine lpN 40 (fun i (μ1 : Me) => Wa X m_M_sheet 2 64 [.ref 82, .int (nI j), .int k, .int n, .int (nI i)] [] μ1 _) (fun i μ1 => μ1 = rL μ 95 (zG (μ.2 95) j i)) ?_ 0 μ (Nat.zero_le _) (by rw [zG_0, rL_self])
  intro i μ1 hi hv hk
  subst hv
  refine r_iload 4 d_M_sheet_64 rfl ?_
  refine r_bipush (40) d_M_sheet_66 (by decide) ?_
  refine r_icmp_ge d_M_sheet_68 (fun h68 => ?_) (fun h68 => ?_)
  · refine r_iconst 1 d_M_sheet_90 rfl ?_
    refine r_iret .int d_M_sheet_91 rfl rfl ?_
    have hge := n_le (a := 40) h68 rfl rfl (by decide) (by omega)
    obtain rfl : i = 40 := by omega
    exact ⟨rfl, rfl⟩
  · have hli : i < 40 := n_lt (a := 40) h68 rfl rfl (by decide) (by omega)
    refine r_aload_n 0 d_M_sheet_71 rfl rfl ?_
    refine r_getR fl_M_50 (by first | with_reducible assumption | rfl) rfl d_M_sheet_72 ?_
    refine r_bipush (40) d_M_sheet_75 (by decide) ?_
    refine r_iload_n 1 d_M_sheet_77 rfl rfl ?_
    refine r_imul d_M_sheet_78 ?_
    refine r_iload 4 d_M_sheet_79 rfl ?_
    refine r_iadd d_M_sheet_81 ?_
    rw [mul40, nI_add]
    refine r_lconst 0 d_M_sheet_82 rfl ?_
    refine r_lastN (by first | with_reducible assumption | rfl) (show 40 * j + i < 160 by omega) d_M_sheet_83 ?_
    first | refine r_iincN 4 [_, _, _, _, _] d_M_sheet_84 (by decide) rfl rfl ?_ | refine r_iinc 4 [_, _, _, _, _] (1) d_M_sheet_84 (by decide) (by decide) rfl rfl ?_
    refine r_goto d_M_sheet_87 ?_
    exact hk _ hli (by rw [uL_rL, zG_s])
set_option maxHeartbeats 400000 in
theorem c_M_sheet_lose {j : Nat} (hj : j < 4) (n : Int32) (μ : Me) : CtI m_M_sheet 2 [.ref 82, .int (nI j), .int (-1), .int n] μ 1 (rL (uI (uI μ 93 j (-1)) 94 j 0) 95 (zG (μ.2 95) j 40)) := by
  refine Ct.of (ls := [.ref 82, .int (nI j), .int (-1), .int n, flr]) rfl (Nat.le_of_ble_eq_true rfl) rfl (fun X => ?_)
  refine r_iload_n 1 d_M_sheet_0 rfl rfl ?_
  refine r_callSi (c_M_isShelf _ _) lk_M_308 d_M_sheet_1 rfl rfl (Nat.le_of_ble_eq_true rfl) (by decide) ?_
  refine r_if_eq d_M_sheet_4 (fun h4 => absurd h4 (bzy (f4_yes hj))) (fun h4 => ?_)
  refine r_iload_n 2 d_M_sheet_7 rfl rfl ?_
  refine r_iconst (-1) d_M_sheet_8 rfl ?_
  refine r_iconst 3 d_M_sheet_9 rfl ?_
  refine r_callSi (c_M_in _ _ _ _) lk_M_72 d_M_sheet_10 rfl rfl (Nat.le_of_ble_eq_true rfl) (by decide) ?_
  refine r_if_eq d_M_sheet_13 (fun h13 => absurd h13 (bzy (by decide))) (fun h13 => ?_)
  refine r_iload_n 2 d_M_sheet_16 rfl rfl ?_
  refine r_if_lt d_M_sheet_17 (fun h17 => ?_) (fun h17 => absurd (by decide) h17)
  refine r_iload_n 2 d_M_sheet_28 rfl rfl ?_
  refine r_if_lt d_M_sheet_29 (fun h29 => ?_) (fun h29 => absurd (by decide) h29)
  refine r_aload_n 0 d_M_sheet_39 rfl rfl ?_
  refine r_getR fl_M_44 (by first | with_reducible assumption | rfl) rfl d_M_sheet_40 ?_
  refine r_iload_n 1 d_M_sheet_43 rfl rfl ?_
  refine r_iload_n 2 d_M_sheet_44 rfl rfl ?_
  refine r_iastN (by first | with_reducible assumption | rfl) (by first | with_reducible assumption | omega | decide | assumption) d_M_sheet_45 ?_
  refine r_aload_n 0 d_M_sheet_46 rfl rfl ?_
  refine r_getR fl_M_47 (by first | with_reducible assumption | rfl) rfl d_M_sheet_47 ?_
  refine r_iload_n 1 d_M_sheet_50 rfl rfl ?_
  refine r_iload_n 2 d_M_sheet_51 rfl rfl ?_
  refine r_if_ge d_M_sheet_52 (fun h52 => absurd h52 (by decide)) (fun h52 => ?_)
  refine r_iconst 0 d_M_sheet_55 rfl ?_
  refine r_goto d_M_sheet_56 ?_
  refine r_iastN (by first | with_reducible assumption | rfl) (by first | with_reducible assumption | omega | decide | assumption) d_M_sheet_60 ?_
  refine r_iconst 0 d_M_sheet_61 rfl ?_
  refine r_istore 4 [_, _, _, _, _] d_M_sheet_62 (by decide) rfl ?_
  exact c_M_sheet_loop X j hj _ _ _
set_option maxHeartbeats 400000 in
theorem c_M_sheet_big {j : Nat} (hj : j < 4) (k n : Int32) (hk : 0 ≤ k ∧ k ≤ 3) (hn : 40 < n) (μ : Me) : CtI m_M_sheet 2 [.ref 82, .int (nI j), .int k, .int n] μ (-1) μ := by
  refine Ct.of (ls := [.ref 82, .int (nI j), .int k, .int n, flr]) rfl (Nat.le_of_ble_eq_true rfl) rfl (fun X => ?_)
  refine r_iload_n 1 d_M_sheet_0 rfl rfl ?_
  refine r_callSi (c_M_isShelf _ _) lk_M_308 d_M_sheet_1 rfl rfl (Nat.le_of_ble_eq_true rfl) (by decide) ?_
  refine r_if_eq d_M_sheet_4 (fun h4 => absurd h4 (bzy (f4_yes hj))) (fun h4 => ?_)
  refine r_iload_n 2 d_M_sheet_7 rfl rfl ?_
  refine r_iconst (-1) d_M_sheet_8 rfl ?_
  refine r_iconst 3 d_M_sheet_9 rfl ?_
  refine r_callSi (c_M_in _ _ _ _) lk_M_72 d_M_sheet_10 rfl rfl (Nat.le_of_ble_eq_true rfl) (by decide) ?_
  refine r_if_eq d_M_sheet_13 (fun h13 => absurd h13 (bzy ⟨by grind, hk.2⟩)) (fun h13 => ?_)
  refine r_iload_n 2 d_M_sheet_16 rfl rfl ?_
  refine r_if_lt d_M_sheet_17 (fun h17 => absurd h17 (Int32.not_lt.mpr hk.1)) (fun h17 => ?_)
  refine r_iload_n 3 d_M_sheet_20 rfl rfl ?_
  refine r_bipush (40) d_M_sheet_21 (by decide) ?_
  refine r_icmp_le d_M_sheet_23 (fun h23 => absurd h23 (Int32.not_le.mpr hn)) (fun h23 => ?_)
  refine r_iconst (-1) d_M_sheet_26 rfl ?_
  refine r_iret .int d_M_sheet_27 rfl rfl ?_
  exact ⟨rfl, rfl⟩
set_option maxHeartbeats 400000 in
theorem c_M_sheet_neg {j : Nat} (hj : j < 4) (k n : Int32) (hk : 0 ≤ k ∧ k ≤ 3) (hn : n < 0) (μ : Me) : CtI m_M_sheet 2 [.ref 82, .int (nI j), .int k, .int n] μ (-14) μ := by
  refine Ct.of (ls := [.ref 82, .int (nI j), .int k, .int n, flr]) rfl (Nat.le_of_ble_eq_true rfl) rfl (fun X => ?_)
  refine r_iload_n 1 d_M_sheet_0 rfl rfl ?_
  refine r_callSi (c_M_isShelf _ _) lk_M_308 d_M_sheet_1 rfl rfl (Nat.le_of_ble_eq_true rfl) (by decide) ?_
  refine r_if_eq d_M_sheet_4 (fun h4 => absurd h4 (bzy (f4_yes hj))) (fun h4 => ?_)
  refine r_iload_n 2 d_M_sheet_7 rfl rfl ?_
  refine r_iconst (-1) d_M_sheet_8 rfl ?_
  refine r_iconst 3 d_M_sheet_9 rfl ?_
  refine r_callSi (c_M_in _ _ _ _) lk_M_72 d_M_sheet_10 rfl rfl (Nat.le_of_ble_eq_true rfl) (by decide) ?_
  refine r_if_eq d_M_sheet_13 (fun h13 => absurd h13 (bzy ⟨by grind, hk.2⟩)) (fun h13 => ?_)
  refine r_iload_n 2 d_M_sheet_16 rfl rfl ?_
  refine r_if_lt d_M_sheet_17 (fun h17 => absurd h17 (Int32.not_lt.mpr hk.1)) (fun h17 => ?_)
  refine r_iload_n 3 d_M_sheet_20 rfl rfl ?_
  refine r_bipush (40) d_M_sheet_21 (by decide) ?_
  refine r_icmp_le d_M_sheet_23 (fun h23 => ?_) (fun h23 => absurd (by grind) h23)
  refine r_iload_n 2 d_M_sheet_28 rfl rfl ?_
  refine r_if_lt d_M_sheet_29 (fun h29 => absurd h29 (Int32.not_lt.mpr hk.1)) (fun h29 => ?_)
  refine r_iload_n 3 d_M_sheet_32 rfl rfl ?_
  refine r_if_ge d_M_sheet_33 (fun h33 => absurd h33 (Int32.not_le.mpr hn)) (fun h33 => ?_)
  refine r_bipush (-14) d_M_sheet_36 (by decide) ?_
  refine r_iret .int d_M_sheet_38 rfl rfl ?_
  exact ⟨rfl, rfl⟩
set_option maxHeartbeats 400000 in
theorem c_M_sheet {j : Nat} (hj : j < 4) (k n : Int32) (hk : 0 ≤ k ∧ k ≤ 3) (hn : 0 ≤ n ∧ n ≤ 40) (μ : Me) : CtI m_M_sheet 2 [.ref 82, .int (nI j), .int k, .int n] μ 1 (rL (uI (uI μ 93 j k) 94 j n) 95 (zG (μ.2 95) j 40)) := by
  refine Ct.of (ls := [.ref 82, .int (nI j), .int k, .int n, flr]) rfl (Nat.le_of_ble_eq_true rfl) rfl (fun X => ?_)
  refine r_iload_n 1 d_M_sheet_0 rfl rfl ?_
  refine r_callSi (c_M_isShelf _ _) lk_M_308 d_M_sheet_1 rfl rfl (Nat.le_of_ble_eq_true rfl) (by decide) ?_
  refine r_if_eq d_M_sheet_4 (fun h4 => absurd h4 (bzy (f4_yes hj))) (fun h4 => ?_)
  refine r_iload_n 2 d_M_sheet_7 rfl rfl ?_
  refine r_iconst (-1) d_M_sheet_8 rfl ?_
  refine r_iconst 3 d_M_sheet_9 rfl ?_
  refine r_callSi (c_M_in _ _ _ _) lk_M_72 d_M_sheet_10 rfl rfl (Nat.le_of_ble_eq_true rfl) (by decide) ?_
  refine r_if_eq d_M_sheet_13 (fun h13 => absurd h13 (bzy ⟨by grind, hk.2⟩)) (fun h13 => ?_)
  refine r_iload_n 2 d_M_sheet_16 rfl rfl ?_
  refine r_if_lt d_M_sheet_17 (fun h17 => absurd h17 (Int32.not_lt.mpr hk.1)) (fun h17 => ?_)
  refine r_iload_n 3 d_M_sheet_20 rfl rfl ?_
  refine r_bipush (40) d_M_sheet_21 (by decide) ?_
  refine r_icmp_le d_M_sheet_23 (fun h23 => ?_) (fun h23 => absurd hn.2 h23)
  refine r_iload_n 2 d_M_sheet_28 rfl rfl ?_
  refine r_if_lt d_M_sheet_29 (fun h29 => absurd h29 (Int32.not_lt.mpr hk.1)) (fun h29 => ?_)
  refine r_iload_n 3 d_M_sheet_32 rfl rfl ?_
  refine r_if_ge d_M_sheet_33 (fun h33 => ?_) (fun h33 => absurd hn.1 h33)
  refine r_aload_n 0 d_M_sheet_39 rfl rfl ?_
  refine r_getR fl_M_44 (by first | with_reducible assumption | rfl) rfl d_M_sheet_40 ?_
  refine r_iload_n 1 d_M_sheet_43 rfl rfl ?_
  refine r_iload_n 2 d_M_sheet_44 rfl rfl ?_
  refine r_iastN (by first | with_reducible assumption | rfl) (by first | with_reducible assumption | omega | decide | assumption) d_M_sheet_45 ?_
  refine r_aload_n 0 d_M_sheet_46 rfl rfl ?_
  refine r_getR fl_M_47 (by first | with_reducible assumption | rfl) rfl d_M_sheet_47 ?_
  refine r_iload_n 1 d_M_sheet_50 rfl rfl ?_
  refine r_iload_n 2 d_M_sheet_51 rfl rfl ?_
  refine r_if_ge d_M_sheet_52 (fun h52 => ?_) (fun h52 => absurd hk.1 h52)
  refine r_iload_n 3 d_M_sheet_59 rfl rfl ?_
  refine r_iastN (by first | with_reducible assumption | rfl) (by first | with_reducible assumption | omega | decide | assumption) d_M_sheet_60 ?_
  refine r_iconst 0 d_M_sheet_61 rfl ?_
  refine r_istore 4 [_, _, _, _, _] d_M_sheet_62 (by decide) rfl ?_
  exact c_M_sheet_loop X j hj _ _ _
set_option maxHeartbeats 400000 in
theorem c_M_put_bad {s : Int32} (i v : Int32) (hP : ¬ (0 ≤ s ∧ s < 4)) (μ : Me) : CtI m_M_put 2 [.ref 82, .int s, .int i, .int v] μ (-1) μ := by
  refine Ct.of (ls := [.ref 82, .int s, .int i, .int v]) rfl (Nat.le_of_ble_eq_true rfl) rfl (fun X => ?_)
  refine r_iload_n 1 d_M_put_0 rfl rfl ?_
  refine r_callSi (c_M_isShelf _ _) lk_M_308 d_M_put_1 rfl rfl (Nat.le_of_ble_eq_true rfl) (by decide) ?_
  refine r_if_ne d_M_put_4 (fun h4 => absurd (bzn hP) h4) (fun h4 => ?_)
  refine r_iconst (-1) d_M_put_7 rfl ?_
  refine r_iret .int d_M_put_8 rfl rfl ?_
  exact ⟨rfl, rfl⟩
set_option maxHeartbeats 400000 in
theorem c_M_put_none {j : Nat} (hj : j < 4) (i v : Int32) (μ : Me) (hs : μ.1 93 j < 0) : CtI m_M_put 2 [.ref 82, .int (nI j), .int i, .int v] μ (-11) μ := by
  refine Ct.of (ls := [.ref 82, .int (nI j), .int i, .int v]) rfl (Nat.le_of_ble_eq_true rfl) rfl (fun X => ?_)
  refine r_iload_n 1 d_M_put_0 rfl rfl ?_
  refine r_callSi (c_M_isShelf _ _) lk_M_308 d_M_put_1 rfl rfl (Nat.le_of_ble_eq_true rfl) (by decide) ?_
  refine r_if_ne d_M_put_4 (fun h4 => ?_) (fun h4 => absurd h4 (bzy (f4_yes hj)))
  refine r_aload_n 0 d_M_put_9 rfl rfl ?_
  refine r_getR fl_M_44 (by first | with_reducible assumption | rfl) rfl d_M_put_10 ?_
  refine r_iload_n 1 d_M_put_13 rfl rfl ?_
  refine r_ialdN (by first | with_reducible assumption | rfl) (by first | with_reducible assumption | omega | decide | assumption) d_M_put_14 ?_
  refine r_if_ge d_M_put_15 (fun h15 => absurd h15 (Int32.not_le.mpr hs)) (fun h15 => ?_)
  refine r_bipush (-11) d_M_put_18 (by decide) ?_
  refine r_iret .int d_M_put_20 rfl rfl ?_
  exact ⟨rfl, rfl⟩
set_option maxHeartbeats 400000 in
theorem c_M_put_out {j n : Nat} (hj : j < 4) (hn : n ≤ 40) (i v : Int32) (μ : Me) (hs : 0 ≤ μ.1 93 j) (hct : μ.1 94 j = nI n) (hi : ¬ (0 ≤ i ∧ i < nI n)) : CtI m_M_put 2 [.ref 82, .int (nI j), .int i, .int v] μ (-12) μ := by
  refine Ct.of (ls := [.ref 82, .int (nI j), .int i, .int v]) rfl (Nat.le_of_ble_eq_true rfl) rfl (fun X => ?_)
  refine r_iload_n 1 d_M_put_0 rfl rfl ?_
  refine r_callSi (c_M_isShelf _ _) lk_M_308 d_M_put_1 rfl rfl (Nat.le_of_ble_eq_true rfl) (by decide) ?_
  refine r_if_ne d_M_put_4 (fun h4 => ?_) (fun h4 => absurd h4 (bzy (f4_yes hj)))
  refine r_aload_n 0 d_M_put_9 rfl rfl ?_
  refine r_getR fl_M_44 (by first | with_reducible assumption | rfl) rfl d_M_put_10 ?_
  refine r_iload_n 1 d_M_put_13 rfl rfl ?_
  refine r_ialdN (by first | with_reducible assumption | rfl) (by first | with_reducible assumption | omega | decide | assumption) d_M_put_14 ?_
  refine r_if_ge d_M_put_15 (fun h15 => ?_) (fun h15 => absurd hs h15)
  refine r_iload_n 2 d_M_put_21 rfl rfl ?_
  refine r_iconst 0 d_M_put_22 rfl ?_
  refine r_aload_n 0 d_M_put_23 rfl rfl ?_
  refine r_getR fl_M_47 (by first | with_reducible assumption | rfl) rfl d_M_put_24 ?_
  refine r_iload_n 1 d_M_put_27 rfl rfl ?_
  refine r_ialdN (by first | with_reducible assumption | rfl) (by first | with_reducible assumption | omega | decide | assumption) d_M_put_28 ?_
  refine r_iconst 1 d_M_put_29 rfl ?_
  refine r_isub d_M_put_30 ?_
  rw [hct]
  refine r_callSi (c_M_in _ _ _ _) lk_M_72 d_M_put_31 rfl rfl (Nat.le_of_ble_eq_true rfl) (by decide) ?_
  refine r_if_ne d_M_put_34 (fun h34 => absurd (bzn (fun z => hi ⟨z.1, (le_pred (by omega)).mp z.2⟩)) h34) (fun h34 => ?_)
  refine r_bipush (-12) d_M_put_37 (by decide) ?_
  refine r_iret .int d_M_put_39 rfl rfl ?_
  exact ⟨rfl, rfl⟩
set_option maxHeartbeats 400000 in
theorem c_M_put {j n i : Nat} (hj : j < 4) (hn : n ≤ 40) (hi : i < n) (v : Int32) (μ : Me) (hs : 0 ≤ μ.1 93 j) (hct : μ.1 94 j = nI n) : CtI m_M_put 2 [.ref 82, .int (nI j), .int (nI i), .int v] μ 1 (uL μ 95 (40 * j + i) (narS (μ.1 93 j) v)) := by
  refine Ct.of (ls := [.ref 82, .int (nI j), .int (nI i), .int v]) rfl (Nat.le_of_ble_eq_true rfl) rfl (fun X => ?_)
  refine r_iload_n 1 d_M_put_0 rfl rfl ?_
  refine r_callSi (c_M_isShelf _ _) lk_M_308 d_M_put_1 rfl rfl (Nat.le_of_ble_eq_true rfl) (by decide) ?_
  refine r_if_ne d_M_put_4 (fun h4 => ?_) (fun h4 => absurd h4 (bzy (f4_yes hj)))
  refine r_aload_n 0 d_M_put_9 rfl rfl ?_
  refine r_getR fl_M_44 (by first | with_reducible assumption | rfl) rfl d_M_put_10 ?_
  refine r_iload_n 1 d_M_put_13 rfl rfl ?_
  refine r_ialdN (by first | with_reducible assumption | rfl) (by first | with_reducible assumption | omega | decide | assumption) d_M_put_14 ?_
  refine r_if_ge d_M_put_15 (fun h15 => ?_) (fun h15 => absurd hs h15)
  refine r_iload_n 2 d_M_put_21 rfl rfl ?_
  refine r_iconst 0 d_M_put_22 rfl ?_
  refine r_aload_n 0 d_M_put_23 rfl rfl ?_
  refine r_getR fl_M_47 (by first | with_reducible assumption | rfl) rfl d_M_put_24 ?_
  refine r_iload_n 1 d_M_put_27 rfl rfl ?_
  refine r_ialdN (by first | with_reducible assumption | rfl) (by first | with_reducible assumption | omega | decide | assumption) d_M_put_28 ?_
  refine r_iconst 1 d_M_put_29 rfl ?_
  refine r_isub d_M_put_30 ?_
  rw [hct]
  refine r_callSi (c_M_in _ _ _ _) lk_M_72 d_M_put_31 rfl rfl (Nat.le_of_ble_eq_true rfl) (by decide) ?_
  refine r_if_ne d_M_put_34 (fun h34 => ?_) (fun h34 => absurd h34 (bzy ⟨nI_pos' (by omega), (le_pred (by omega)).mpr (nI_lt hi (by omega))⟩))
  refine r_aload_n 0 d_M_put_40 rfl rfl ?_
  refine r_getR fl_M_50 (by first | with_reducible assumption | rfl) rfl d_M_put_41 ?_
  refine r_bipush (40) d_M_put_44 (by decide) ?_
  refine r_iload_n 1 d_M_put_46 rfl rfl ?_
  refine r_imul d_M_put_47 ?_
  refine r_iload_n 2 d_M_put_48 rfl rfl ?_
  refine r_iadd d_M_put_49 ?_
  rw [mul40, nI_add]
  refine r_aload_n 0 d_M_put_50 rfl rfl ?_
  refine r_getR fl_M_44 (by first | with_reducible assumption | rfl) rfl d_M_put_51 ?_
  refine r_iload_n 1 d_M_put_54 rfl rfl ?_
  refine r_ialdN (by first | with_reducible assumption | rfl) (by first | with_reducible assumption | omega | decide | assumption) d_M_put_55 ?_
  refine r_if_ne d_M_put_56 (fun h56 => ?_) (fun h56 => ?_)
  · refine r_aload_n 0 d_M_put_65 rfl rfl ?_
    refine r_getR fl_M_44 (by first | with_reducible assumption | rfl) rfl d_M_put_66 ?_
    refine r_iload_n 1 d_M_put_69 rfl rfl ?_
    refine r_ialdN (by first | with_reducible assumption | rfl) (by first | with_reducible assumption | omega | decide | assumption) d_M_put_70 ?_
    refine r_iconst 1 d_M_put_71 rfl ?_
    refine r_icmp_ne d_M_put_72 (fun h72 => ?_) (fun h72 => ?_)
    · refine r_iload_n 3 d_M_put_81 rfl rfl ?_
      refine r_i2l d_M_put_82 ?_
      refine r_lastN (by first | with_reducible assumption | rfl) (show 40 * j + i < 160 by omega) d_M_put_83 ?_
      refine r_iconst 1 d_M_put_84 rfl ?_
      refine r_iret .int d_M_put_85 rfl rfl ?_
      refine ⟨rfl, ?_⟩
      first
        | rw [narS, if_neg h56, if_neg h72]
        | rw [narS, if_neg h56, if_pos h72]
        | rw [narS, if_pos h56]
    · refine r_iload_n 3 d_M_put_75 rfl rfl ?_
      refine r_i2s d_M_put_76 ?_
      refine r_i2l d_M_put_77 ?_
      refine r_goto d_M_put_78 ?_
      refine r_lastN (by first | with_reducible assumption | rfl) (show 40 * j + i < 160 by omega) d_M_put_83 ?_
      refine r_iconst 1 d_M_put_84 rfl ?_
      refine r_iret .int d_M_put_85 rfl rfl ?_
      refine ⟨rfl, ?_⟩
      first
        | rw [narS, if_neg h56, if_neg h72]
        | rw [narS, if_neg h56, if_pos h72]
        | rw [narS, if_pos h56]
  · refine r_iload_n 3 d_M_put_59 rfl rfl ?_
    refine r_i2b d_M_put_60 ?_
    refine r_i2l d_M_put_61 ?_
    refine r_goto d_M_put_62 ?_
    refine r_lastN (by first | with_reducible assumption | rfl) (show 40 * j + i < 160 by omega) d_M_put_83 ?_
    refine r_iconst 1 d_M_put_84 rfl ?_
    refine r_iret .int d_M_put_85 rfl rfl ?_
    refine ⟨rfl, ?_⟩
    first
      | rw [narS, if_neg h56, if_neg h72]
      | rw [narS, if_neg h56, if_pos h72]
      | rw [narS, if_pos h56]
set_option maxHeartbeats 400000 in
theorem c_M_lacksSort {j : Nat} (hj : j < 4) (k : Int32) (μ : Me) (hs : μ.1 93 j = -1 ∨ 0 ≤ μ.1 93 j) : CtI m_M_lacksSort 0 [.ref 82, .int (nI j), .int k] μ (if μ.1 93 j = -1 then -11 else if μ.1 93 j = k then 0 else -13) μ := by
  refine Ct.of (ls := [.ref 82, .int (nI j), .int k]) rfl (Nat.le_of_ble_eq_true rfl) rfl (fun X => ?_)
  refine r_aload_n 0 d_M_lacksSort_0 rfl rfl ?_
  refine r_getR fl_M_44 (by first | with_reducible assumption | rfl) rfl d_M_lacksSort_1 ?_
  refine r_iload_n 1 d_M_lacksSort_4 rfl rfl ?_
  refine r_ialdN (by first | with_reducible assumption | rfl) (by first | with_reducible assumption | omega | decide | assumption) d_M_lacksSort_5 ?_
  refine r_if_ge d_M_lacksSort_6 (fun h6 => ?_) (fun h6 => ?_)
  · refine r_aload_n 0 d_M_lacksSort_14 rfl rfl ?_
    refine r_getR fl_M_44 (by first | with_reducible assumption | rfl) rfl d_M_lacksSort_15 ?_
    refine r_iload_n 1 d_M_lacksSort_18 rfl rfl ?_
    refine r_ialdN (by first | with_reducible assumption | rfl) (by first | with_reducible assumption | omega | decide | assumption) d_M_lacksSort_19 ?_
    refine r_iload_n 2 d_M_lacksSort_20 rfl rfl ?_
    refine r_icmp_eq d_M_lacksSort_21 (fun h21 => ?_) (fun h21 => ?_)
    · refine r_iconst 0 d_M_lacksSort_29 rfl ?_
      refine r_iret .int d_M_lacksSort_30 rfl rfl ?_
      refine ⟨?_, rfl⟩
      first
        | (have z6 : 0 ≤ μ.1 93 j := h6; have z21 : μ.1 93 j = k := h21; rw [if_neg (fun z => by rw [z] at z6; exact absurd z6 (by decide)), if_pos z21])
        | (have z6 : 0 ≤ μ.1 93 j := h6; have z21 : ¬ μ.1 93 j = k := h21; rw [if_neg (fun z => by rw [z] at z6; exact absurd z6 (by decide)), if_neg z21])
        | (have z6 : ¬ 0 ≤ μ.1 93 j := h6; rw [if_pos (hs.resolve_right z6)])
    · refine r_bipush (-13) d_M_lacksSort_24 (by decide) ?_
      refine r_goto d_M_lacksSort_26 ?_
      refine r_iret .int d_M_lacksSort_30 rfl rfl ?_
      refine ⟨?_, rfl⟩
      first
        | (have z6 : 0 ≤ μ.1 93 j := h6; have z21 : μ.1 93 j = k := h21; rw [if_neg (fun z => by rw [z] at z6; exact absurd z6 (by decide)), if_pos z21])
        | (have z6 : 0 ≤ μ.1 93 j := h6; have z21 : ¬ μ.1 93 j = k := h21; rw [if_neg (fun z => by rw [z] at z6; exact absurd z6 (by decide)), if_neg z21])
        | (have z6 : ¬ 0 ≤ μ.1 93 j := h6; rw [if_pos (hs.resolve_right z6)])
  · refine r_bipush (-11) d_M_lacksSort_9 (by decide) ?_
    refine r_goto d_M_lacksSort_11 ?_
    refine r_iret .int d_M_lacksSort_30 rfl rfl ?_
    refine ⟨?_, rfl⟩
    first
      | (have z6 : 0 ≤ μ.1 93 j := h6; have z21 : μ.1 93 j = k := h21; rw [if_neg (fun z => by rw [z] at z6; exact absurd z6 (by decide)), if_pos z21])
      | (have z6 : 0 ≤ μ.1 93 j := h6; have z21 : ¬ μ.1 93 j = k := h21; rw [if_neg (fun z => by rw [z] at z6; exact absurd z6 (by decide)), if_neg z21])
      | (have z6 : ¬ 0 ≤ μ.1 93 j := h6; rw [if_pos (hs.resolve_right z6)])
set_option maxHeartbeats 400000 in
theorem c_M_number_bad {s k : Int32} (i : Int32) (hP : ¬ ((0 ≤ s ∧ s < 4) ∧ 0 ≤ k ∧ k ≤ 3)) (μ : Me) : CtI m_M_number 2 [.ref 82, .int s, .int k, .int i] μ (-1) μ := by
  refine Ct.of (ls := [.ref 82, .int s, .int k, .int i, flr]) rfl (Nat.le_of_ble_eq_true rfl) rfl (fun X => ?_)
  refine r_iload_n 1 d_M_number_0 rfl rfl ?_
  refine r_callSi (c_M_isShelf _ _) lk_M_308 d_M_number_1 rfl rfl (Nat.le_of_ble_eq_true rfl) (by decide) ?_
  refine r_if_eq d_M_number_4 (fun h4 => ?_) (fun h4 => ?_)
  · refine r_iconst (-1) d_M_number_16 rfl ?_
    refine r_iret .int d_M_number_17 rfl rfl ?_
    exact ⟨rfl, rfl⟩
  · refine r_iload_n 2 d_M_number_7 rfl rfl ?_
    refine r_iconst 0 d_M_number_8 rfl ?_
    refine r_iconst 3 d_M_number_9 rfl ?_
    refine r_callSi (c_M_in _ _ _ _) lk_M_72 d_M_number_10 rfl rfl (Nat.le_of_ble_eq_true rfl) (by decide) ?_
    refine r_if_ne d_M_number_13 (fun h13 => ?_) (fun h13 => ?_)
    · exact absurd ⟨bz_p h4, bz_p h13⟩ hP
    · refine r_iconst (-1) d_M_number_16 rfl ?_
      refine r_iret .int d_M_number_17 rfl rfl ?_
      exact ⟨rfl, rfl⟩
set_option maxHeartbeats 400000 in
theorem c_M_number {j n : Nat} (hj : j < 4) (hn : n ≤ 40) (k i : Int32) (hk : 0 ≤ k ∧ k ≤ 3) (μ : Me) (hs : μ.1 93 j = -1 ∨ 0 ≤ μ.1 93 j) (hct : μ.1 94 j = nI n) : CtI m_M_number 2 [.ref 82, .int (nI j), .int k, .int i] μ (numS (μ.1 93 j) (nI n) (fun x => μ.2 95 (40 * j + x)) k i) μ := by
  refine Ct.of (ls := [.ref 82, .int (nI j), .int k, .int i, flr]) rfl (Nat.le_of_ble_eq_true rfl) rfl (fun X => ?_)
  have cl := c_M_lacksSort hj k μ hs
  by_cases h1 : μ.1 93 j = -1
  · rw [if_pos h1] at cl
    rw [numS, if_pos h1]
    refine r_iload_n 1 d_M_number_0 rfl rfl ?_
    refine r_callSi (c_M_isShelf _ _) lk_M_308 d_M_number_1 rfl rfl (Nat.le_of_ble_eq_true rfl) (by decide) ?_
    refine r_if_eq d_M_number_4 (fun h4 => absurd h4 (bzy (f4_yes hj))) (fun h4 => ?_)
    refine r_iload_n 2 d_M_number_7 rfl rfl ?_
    refine r_iconst 0 d_M_number_8 rfl ?_
    refine r_iconst 3 d_M_number_9 rfl ?_
    refine r_callSi (c_M_in _ _ _ _) lk_M_72 d_M_number_10 rfl rfl (Nat.le_of_ble_eq_true rfl) (by decide) ?_
    refine r_if_ne d_M_number_13 (fun h13 => ?_) (fun h13 => absurd h13 (bzy hk))
    refine r_aload_n 0 d_M_number_18 rfl rfl ?_
    refine r_iload_n 1 d_M_number_19 rfl rfl ?_
    refine r_iload_n 2 d_M_number_20 rfl rfl ?_
    refine r_callVi cl lk_M_311 (by first | with_reducible assumption | rfl) d_M_number_21 rfl rfl (Nat.le_of_ble_eq_true rfl) (by decide) ?_
    refine r_istore 4 [_, _, _, _, _] d_M_number_24 (by decide) rfl ?_
    refine r_iload 4 d_M_number_26 rfl ?_
    refine r_if_eq d_M_number_28 (fun h28 => absurd h28 (by decide)) (fun h28 => ?_)
    refine r_iload 4 d_M_number_31 rfl ?_
    refine r_iret .int d_M_number_33 rfl rfl ?_
    exact ⟨rfl, rfl⟩
  · by_cases h2 : μ.1 93 j = k
    · rw [if_neg h1, if_pos h2] at cl
      rw [numS, if_neg h1, if_pos h2]
      by_cases hi : 0 ≤ i ∧ i < nI n
      · rw [if_pos hi]
        obtain ⟨q, hq, rfl⟩ := nI_of (Int32.not_lt.mpr hi.1)
        have hqn : q < n := (nI_ltI hq (by omega)).mp hi.2
        rw [nI_clamp hq]
        refine r_iload_n 1 d_M_number_0 rfl rfl ?_
        refine r_callSi (c_M_isShelf _ _) lk_M_308 d_M_number_1 rfl rfl (Nat.le_of_ble_eq_true rfl) (by decide) ?_
        refine r_if_eq d_M_number_4 (fun h4 => absurd h4 (bzy (f4_yes hj))) (fun h4 => ?_)
        refine r_iload_n 2 d_M_number_7 rfl rfl ?_
        refine r_iconst 0 d_M_number_8 rfl ?_
        refine r_iconst 3 d_M_number_9 rfl ?_
        refine r_callSi (c_M_in _ _ _ _) lk_M_72 d_M_number_10 rfl rfl (Nat.le_of_ble_eq_true rfl) (by decide) ?_
        refine r_if_ne d_M_number_13 (fun h13 => ?_) (fun h13 => absurd h13 (bzy hk))
        refine r_aload_n 0 d_M_number_18 rfl rfl ?_
        refine r_iload_n 1 d_M_number_19 rfl rfl ?_
        refine r_iload_n 2 d_M_number_20 rfl rfl ?_
        refine r_callVi cl lk_M_311 (by first | with_reducible assumption | rfl) d_M_number_21 rfl rfl (Nat.le_of_ble_eq_true rfl) (by decide) ?_
        refine r_istore 4 [_, _, _, _, _] d_M_number_24 (by decide) rfl ?_
        refine r_iload 4 d_M_number_26 rfl ?_
        refine r_if_eq d_M_number_28 (fun h28 => ?_) (fun h28 => absurd rfl h28)
        refine r_iload_n 3 d_M_number_34 rfl rfl ?_
        refine r_iconst 0 d_M_number_35 rfl ?_
        refine r_aload_n 0 d_M_number_36 rfl rfl ?_
        refine r_getR fl_M_47 (by first | with_reducible assumption | rfl) rfl d_M_number_37 ?_
        refine r_iload_n 1 d_M_number_40 rfl rfl ?_
        refine r_ialdN (by first | with_reducible assumption | rfl) (by first | with_reducible assumption | omega | decide | assumption) d_M_number_41 ?_
        refine r_iconst 1 d_M_number_42 rfl ?_
        refine r_isub d_M_number_43 ?_
        rw [hct]
        refine r_callSi (c_M_in _ _ _ _) lk_M_72 d_M_number_44 rfl rfl (Nat.le_of_ble_eq_true rfl) (by decide) ?_
        refine r_if_eq d_M_number_47 (fun h47 => absurd h47 (bzy ⟨hi.1, (le_pred (by omega)).mpr hi.2⟩)) (fun h47 => ?_)
        refine r_aload_n 0 d_M_number_50 rfl rfl ?_
        refine r_getR fl_M_50 (by first | with_reducible assumption | rfl) rfl d_M_number_51 ?_
        refine r_bipush (40) d_M_number_54 (by decide) ?_
        refine r_iload_n 1 d_M_number_56 rfl rfl ?_
        refine r_imul d_M_number_57 ?_
        refine r_iload_n 3 d_M_number_58 rfl rfl ?_
        refine r_iadd d_M_number_59 ?_
        rw [mul40, nI_add]
        refine r_laldN (by first | with_reducible assumption | rfl) (show 40 * j + q < 160 by omega) d_M_number_60 ?_
        refine r_l2i d_M_number_61 ?_
        refine r_goto d_M_number_62 ?_
        refine r_iret .int d_M_number_67 rfl rfl ?_
        exact ⟨rfl, rfl⟩
      · rw [if_neg hi]
        refine r_iload_n 1 d_M_number_0 rfl rfl ?_
        refine r_callSi (c_M_isShelf _ _) lk_M_308 d_M_number_1 rfl rfl (Nat.le_of_ble_eq_true rfl) (by decide) ?_
        refine r_if_eq d_M_number_4 (fun h4 => absurd h4 (bzy (f4_yes hj))) (fun h4 => ?_)
        refine r_iload_n 2 d_M_number_7 rfl rfl ?_
        refine r_iconst 0 d_M_number_8 rfl ?_
        refine r_iconst 3 d_M_number_9 rfl ?_
        refine r_callSi (c_M_in _ _ _ _) lk_M_72 d_M_number_10 rfl rfl (Nat.le_of_ble_eq_true rfl) (by decide) ?_
        refine r_if_ne d_M_number_13 (fun h13 => ?_) (fun h13 => absurd h13 (bzy hk))
        refine r_aload_n 0 d_M_number_18 rfl rfl ?_
        refine r_iload_n 1 d_M_number_19 rfl rfl ?_
        refine r_iload_n 2 d_M_number_20 rfl rfl ?_
        refine r_callVi cl lk_M_311 (by first | with_reducible assumption | rfl) d_M_number_21 rfl rfl (Nat.le_of_ble_eq_true rfl) (by decide) ?_
        refine r_istore 4 [_, _, _, _, _] d_M_number_24 (by decide) rfl ?_
        refine r_iload 4 d_M_number_26 rfl ?_
        refine r_if_eq d_M_number_28 (fun h28 => ?_) (fun h28 => absurd rfl h28)
        refine r_iload_n 3 d_M_number_34 rfl rfl ?_
        refine r_iconst 0 d_M_number_35 rfl ?_
        refine r_aload_n 0 d_M_number_36 rfl rfl ?_
        refine r_getR fl_M_47 (by first | with_reducible assumption | rfl) rfl d_M_number_37 ?_
        refine r_iload_n 1 d_M_number_40 rfl rfl ?_
        refine r_ialdN (by first | with_reducible assumption | rfl) (by first | with_reducible assumption | omega | decide | assumption) d_M_number_41 ?_
        refine r_iconst 1 d_M_number_42 rfl ?_
        refine r_isub d_M_number_43 ?_
        rw [hct]
        refine r_callSi (c_M_in _ _ _ _) lk_M_72 d_M_number_44 rfl rfl (Nat.le_of_ble_eq_true rfl) (by decide) ?_
        refine r_if_eq d_M_number_47 (fun h47 => ?_) (fun h47 => absurd (bzn (fun z => hi ⟨z.1, (le_pred (by omega)).mp z.2⟩)) h47)
        refine r_bipush (-12) d_M_number_65 (by decide) ?_
        refine r_iret .int d_M_number_67 rfl rfl ?_
        exact ⟨rfl, rfl⟩
    · rw [if_neg h1, if_neg h2] at cl
      rw [numS, if_neg h1, if_neg h2]
      refine r_iload_n 1 d_M_number_0 rfl rfl ?_
      refine r_callSi (c_M_isShelf _ _) lk_M_308 d_M_number_1 rfl rfl (Nat.le_of_ble_eq_true rfl) (by decide) ?_
      refine r_if_eq d_M_number_4 (fun h4 => absurd h4 (bzy (f4_yes hj))) (fun h4 => ?_)
      refine r_iload_n 2 d_M_number_7 rfl rfl ?_
      refine r_iconst 0 d_M_number_8 rfl ?_
      refine r_iconst 3 d_M_number_9 rfl ?_
      refine r_callSi (c_M_in _ _ _ _) lk_M_72 d_M_number_10 rfl rfl (Nat.le_of_ble_eq_true rfl) (by decide) ?_
      refine r_if_ne d_M_number_13 (fun h13 => ?_) (fun h13 => absurd h13 (bzy hk))
      refine r_aload_n 0 d_M_number_18 rfl rfl ?_
      refine r_iload_n 1 d_M_number_19 rfl rfl ?_
      refine r_iload_n 2 d_M_number_20 rfl rfl ?_
      refine r_callVi cl lk_M_311 (by first | with_reducible assumption | rfl) d_M_number_21 rfl rfl (Nat.le_of_ble_eq_true rfl) (by decide) ?_
      refine r_istore 4 [_, _, _, _, _] d_M_number_24 (by decide) rfl ?_
      refine r_iload 4 d_M_number_26 rfl ?_
      refine r_if_eq d_M_number_28 (fun h28 => absurd h28 (by decide)) (fun h28 => ?_)
      refine r_iload 4 d_M_number_31 rfl ?_
      refine r_iret .int d_M_number_33 rfl rfl ?_
      exact ⟨rfl, rfl⟩
