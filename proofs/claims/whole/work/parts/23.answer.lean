theorem cpy_cut {n : Nat} {f g : Nat → Int32} : va_cpy f g 0 0 n = cut n f g := by
  funext p
  simp [va_cpy, cut]
set_option maxHeartbeats 400000 in
theorem c_Learner_copyFrom {c c' : Nat} (hc : isL c) (hc' : isL c') (hd : c + 4 ≤ c' ∨ c' + 4 ≤ c) (μ : Me) : CtV m_Learner_copyFrom 1 [.ref c, .ref c'] μ (r3 (uI (uI μ c 0 (μ.1 c' 0)) c 1 (μ.1 c' 1)) c (cut 36 (μ.1 (c' + 1)) (μ.1 (c + 1))) (cut 36 (μ.1 (c' + 2)) (μ.1 (c + 2))) (cut 36 (μ.1 (c' + 3)) (μ.1 (c + 3)))) := by
  refine Ct.of (ls := [.ref c, .ref c']) rfl (Nat.le_of_ble_eq_true rfl) rfl (fun X => ?_)
  obtain ⟨s9, s0, s1, s2, s3⟩ := hc
  obtain ⟨t9, t0, t1, t2, t3⟩ := hc'
  have n0 : c' ≠ c := by omega
  have n1 : c' + 1 ≠ c := by omega
  have n2 : c' + 2 ≠ c := by omega
  have n3 : c' + 2 ≠ c + 1 := by omega
  have n4 : c' + 3 ≠ c := by omega
  have n5 : c' + 3 ≠ c + 1 := by omega
  have n6 : c' + 3 ≠ c + 2 := by omega
  refine r_aload_n 0 d_Learner_copyFrom_0 rfl rfl ?_
  refine r_aload_n 1 d_Learner_copyFrom_1 rfl rfl ?_
  refine r_getI fl_Learner_9 (by first | with_reducible assumption | rfl) rfl d_Learner_copyFrom_2 ?_
  refine r_putI fp_Learner_9 (by first | with_reducible assumption | rfl) rfl d_Learner_copyFrom_5 ?_
  refine r_aload_n 0 d_Learner_copyFrom_8 rfl rfl ?_
  refine r_aload_n 1 d_Learner_copyFrom_9 rfl rfl ?_
  refine r_getI fl_Learner_15 (by first | with_reducible assumption | rfl) rfl d_Learner_copyFrom_10 ?_
  refine r_putI fp_Learner_15 (by first | with_reducible assumption | rfl) rfl d_Learner_copyFrom_13 ?_
  refine r_aload_n 1 d_Learner_copyFrom_16 rfl rfl ?_
  refine r_getR fl_Learner_18 (by first | with_reducible assumption | rfl) rfl d_Learner_copyFrom_17 ?_
  refine r_iconst 0 d_Learner_copyFrom_20 rfl ?_
  refine r_aload_n 0 d_Learner_copyFrom_21 rfl rfl ?_
  refine r_getR fl_Learner_18 (by first | with_reducible assumption | rfl) rfl d_Learner_copyFrom_22 ?_
  refine r_iconst 0 d_Learner_copyFrom_25 rfl ?_
  refine r_bipush (36) d_Learner_copyFrom_26 (by decide) ?_
  refine r_copy ac_Learner_32 (by first | with_reducible assumption | rfl) (by first | with_reducible assumption | rfl) (by decide) (by decide) (by decide) d_Learner_copyFrom_28 (Nat.le_of_ble_eq_true rfl) (by decide) ?_
  refine r_aload_n 1 d_Learner_copyFrom_31 rfl rfl ?_
  refine r_getR fl_Learner_22 (by first | with_reducible assumption | rfl) rfl d_Learner_copyFrom_32 ?_
  refine r_iconst 0 d_Learner_copyFrom_35 rfl ?_
  refine r_aload_n 0 d_Learner_copyFrom_36 rfl rfl ?_
  refine r_getR fl_Learner_22 (by first | with_reducible assumption | rfl) rfl d_Learner_copyFrom_37 ?_
  refine r_iconst 0 d_Learner_copyFrom_40 rfl ?_
  refine r_bipush (36) d_Learner_copyFrom_41 (by decide) ?_
  refine r_copy ac_Learner_32 (by first | with_reducible assumption | rfl) (by first | with_reducible assumption | rfl) (by decide) (by decide) (by decide) d_Learner_copyFrom_43 (Nat.le_of_ble_eq_true rfl) (by decide) ?_
  refine r_aload_n 1 d_Learner_copyFrom_46 rfl rfl ?_
  refine r_getR fl_Learner_25 (by first | with_reducible assumption | rfl) rfl d_Learner_copyFrom_47 ?_
  refine r_iconst 0 d_Learner_copyFrom_50 rfl ?_
  refine r_aload_n 0 d_Learner_copyFrom_51 rfl rfl ?_
  refine r_getR fl_Learner_25 (by first | with_reducible assumption | rfl) rfl d_Learner_copyFrom_52 ?_
  refine r_iconst 0 d_Learner_copyFrom_55 rfl ?_
  refine r_bipush (36) d_Learner_copyFrom_56 (by decide) ?_
  refine r_copy ac_Learner_32 (by first | with_reducible assumption | rfl) (by first | with_reducible assumption | rfl) (by decide) (by decide) (by decide) d_Learner_copyFrom_58 (Nat.le_of_ble_eq_true rfl) (by decide) ?_
  refine r_ret d_Learner_copyFrom_61 rfl ?_
  refine ⟨rfl, ?_⟩
  simp only [cpy_cut]
  have e : (Int32.toNatClampNeg 36) = 36 := by decide
  simp [r3, uI, rI, n0, n1, n2, n3, n4, n5, n6, e]
set_option maxHeartbeats 400000 in
theorem c_Answer_isProduct (μ : Me) : CtI m_Answer_isProduct 0 [.ref 57] μ (bz (μ.1 57 1 = 0 ∨ μ.1 57 1 = 1)) μ := by
  refine Ct.of (ls := [.ref 57]) rfl (Nat.le_of_ble_eq_true rfl) rfl (fun X => ?_)
  refine r_aload_n 0 d_Answer_isProduct_0 rfl rfl ?_
  refine r_getI fl_Answer_15 (by first | with_reducible assumption | rfl) rfl d_Answer_isProduct_1 ?_
  refine r_if_eq d_Answer_isProduct_4 (fun h4 => ?_) (fun h4 => ?_)
  · refine r_iconst 1 d_Answer_isProduct_15 rfl ?_
    refine r_goto d_Answer_isProduct_16 ?_
    refine r_iret .boolean d_Answer_isProduct_20 rfl (by first | decide | assumption) ?_
    exact ⟨by simp_all [bz], rfl⟩
  · refine r_aload_n 0 d_Answer_isProduct_7 rfl rfl ?_
    refine r_getI fl_Answer_15 (by first | with_reducible assumption | rfl) rfl d_Answer_isProduct_8 ?_
    refine r_iconst 1 d_Answer_isProduct_11 rfl ?_
    refine r_icmp_ne d_Answer_isProduct_12 (fun h12 => ?_) (fun h12 => ?_)
    · refine r_iconst 0 d_Answer_isProduct_19 rfl ?_
      refine r_iret .boolean d_Answer_isProduct_20 rfl (by first | decide | assumption) ?_
      exact ⟨by simp_all [bz], rfl⟩
    · refine r_iconst 1 d_Answer_isProduct_15 rfl ?_
      refine r_goto d_Answer_isProduct_16 ?_
      refine r_iret .boolean d_Answer_isProduct_20 rfl (by first | decide | assumption) ?_
      exact ⟨by simp_all [bz], rfl⟩
/-- what is found: said, how, seconds, by -/
def ansM (μ : Me) (q : Int32 × Int32 × Int32 × Int32) : Me := uI (uI (uI (uI μ 57 0 q.1) 57 1 q.2.1) 57 2 q.2.2.1) 57 3 q.2.2.2
set_option maxHeartbeats 400000 in
theorem c_Answer_become (a b c e : Int32) (μ : Me) : CtV m_Answer_become 0 [.ref 57, .int a, .int b, .int c, .int e] μ (ansM μ (a, b, c, e)) := by
  refine Ct.of (ls := [.ref 57, .int a, .int b, .int c, .int e]) rfl (Nat.le_of_ble_eq_true rfl) rfl (fun X => ?_)
  refine r_aload_n 0 d_Answer_become_0 rfl rfl ?_
  refine r_iload_n 1 d_Answer_become_1 rfl rfl ?_
  refine r_putI fp_Answer_9 (by first | with_reducible assumption | rfl) rfl d_Answer_become_2 ?_
  refine r_aload_n 0 d_Answer_become_5 rfl rfl ?_
  refine r_iload_n 2 d_Answer_become_6 rfl rfl ?_
  refine r_putI fp_Answer_15 (by first | with_reducible assumption | rfl) rfl d_Answer_become_7 ?_
  refine r_aload_n 0 d_Answer_become_10 rfl rfl ?_
  refine r_iload_n 3 d_Answer_become_11 rfl rfl ?_
  refine r_putI fp_Answer_18 (by first | with_reducible assumption | rfl) rfl d_Answer_become_12 ?_
  refine r_aload_n 0 d_Answer_become_15 rfl rfl ?_
  refine r_iload 4 d_Answer_become_16 rfl ?_
  refine r_putI fp_Answer_21 (by first | with_reducible assumption | rfl) rfl d_Answer_become_18 ?_
  refine r_ret d_Answer_become_21 rfl ?_
  exact ⟨rfl, rfl⟩
def gainS (f : Int32) : Int32 := if f + (100 - f) / 4 + 1 < 100 then f + (100 - f) / 4 + 1 else 100
def lossS (f : Int32) : Int32 := if 0 < f - 1 then f - 1 else 0
def moreS (f : Int32) : Int32 := if f + 1 < 100 then f + 1 else 100
def r9S (r : Int32) : Int32 := if r + 1 < 9 then r + 1 else 9
def keepFirm (how : Int32) (q : Nat) (f : Nat → Int32) (p : Nat) : Nat → Int32 := if how = 0 ∨ how = 1 then upd f p (gainS (f p)) else if how = 2 then upd (upd f p (lossS (f p))) q (moreS (upd f p (lossS (f p)) q)) else f
def keepRights (how day : Int32) (r l : Nat → Int32) (p : Nat) : Nat → Int32 := if (how = 0 ∨ how = 1) ∧ ¬ day = l p then upd r p (r9S (r p)) else r
set_option maxHeartbeats 400000 in
theorem c_Learner_keepAnswer {c p : Nat} (hc : isL c) (hp : p < 36) (day : Int32) (μ : Me) (q : Nat) (hq : μ.1 57 1 = 2 → μ.1 57 3 = nI q ∧ q < 36) : CtV m_Learner_keepAnswer 1 [.ref c, .ref 57, .int (nI p), .int day] μ (r3 μ c (keepFirm (μ.1 57 1) q (μ.1 (c + 1)) p) (keepRights (μ.1 57 1) day (μ.1 (c + 2)) (μ.1 (c + 3)) p) (upd (μ.1 (c + 3)) p day)) := by
  refine Ct.of (ls := [.ref c, .ref 57, .int (nI p), .int day]) rfl (Nat.le_of_ble_eq_true rfl) rfl (fun X => ?_)
  obtain ⟨s9, s0, s1, s2, s3⟩ := hc
  have e3 : ∀ (f r l : Nat → Int32) (j : Nat), (r3 μ c f r l).1 57 j = μ.1 57 j := fun f r l j => by rw [r3_ne (by omega) (by omega) (by omega)]
  generalize hf : μ.1 (c + 1) = f at *
  generalize hr : μ.1 (c + 2) = r at *
  generalize hl : μ.1 (c + 3) = lt at *
  have hμ : μ = r3 μ c f r lt := by rw [← hf, ← hr, ← hl, r3_self]
  refine Wa.eqM hμ ?_
  refine r_aload_n 1 d_Learner_keepAnswer_0 rfl rfl ?_
  refine r_callVi (c_Answer_isProduct _) lk_Learner_56 (by first | with_reducible assumption | rfl) d_Learner_keepAnswer_1 rfl rfl (Nat.le_of_ble_eq_true rfl) (by decide) ?_
  refine r_if_eq d_Learner_keepAnswer_4 (fun h4 => ?_) (fun h4 => ?_)
  · rw [e3] at h4
    have hh : ¬ (μ.1 57 1 = 0 ∨ μ.1 57 1 = 1) := bz_np h4
    refine r_aload_n 1 d_Learner_keepAnswer_70 rfl rfl ?_
    refine r_getI fl_Learner_62 (by first | with_reducible assumption | rfl) rfl d_Learner_keepAnswer_71 ?_
    refine r_iconst 2 d_Learner_keepAnswer_74 rfl ?_
    refine r_icmp_ne d_Learner_keepAnswer_75 (fun h75 => ?_) (fun h75 => ?_)
    · rw [e3] at h75
      refine r_aload_n 0 d_Learner_keepAnswer_121 rfl rfl ?_
      refine r_getR fl_Learner_25 (by first | with_reducible assumption | rfl) rfl d_Learner_keepAnswer_122 ?_
      refine r_iload_n 2 d_Learner_keepAnswer_125 rfl rfl ?_
      refine r_iload_n 3 d_Learner_keepAnswer_126 rfl rfl ?_
      refine r_iastN (by first | with_reducible assumption | rfl) (by first | with_reducible assumption | omega | decide | assumption) d_Learner_keepAnswer_127 ?_
      refine r_ret d_Learner_keepAnswer_128 rfl ?_
      refine ⟨rfl, ?_⟩
      rw [r3_u3]
      simp [keepFirm, keepRights, hh, h75]
    · rw [e3] at h75
      have h2 : μ.1 57 1 = 2 := h75
      obtain ⟨hq1, hq2⟩ := hq h2
      refine r_aload_n 0 d_Learner_keepAnswer_78 rfl rfl ?_
      refine r_getR fl_Learner_18 (by first | with_reducible assumption | rfl) rfl d_Learner_keepAnswer_79 ?_
      refine r_iload_n 2 d_Learner_keepAnswer_82 rfl rfl ?_
      refine r_iconst 0 d_Learner_keepAnswer_83 rfl ?_
      refine r_aload_n 0 d_Learner_keepAnswer_84 rfl rfl ?_
      refine r_getR fl_Learner_18 (by first | with_reducible assumption | rfl) rfl d_Learner_keepAnswer_85 ?_
      refine r_iload_n 2 d_Learner_keepAnswer_88 rfl rfl ?_
      refine r_ialdN (by first | with_reducible assumption | rfl) (by first | with_reducible assumption | omega | decide | assumption) d_Learner_keepAnswer_89 ?_
      refine r_iconst 1 d_Learner_keepAnswer_90 rfl ?_
      refine r_isub d_Learner_keepAnswer_91 ?_
      refine r_max mm_Learner_38 d_Learner_keepAnswer_92 (Nat.le_of_ble_eq_true rfl) (by decide) ?_
      refine r_iastN (by first | with_reducible assumption | rfl) (by first | with_reducible assumption | omega | decide | assumption) d_Learner_keepAnswer_95 ?_
      rw [r3_u1]
      refine r_aload_n 0 d_Learner_keepAnswer_96 rfl rfl ?_
      refine r_getR fl_Learner_18 (by first | with_reducible assumption | rfl) rfl d_Learner_keepAnswer_97 ?_
      refine r_aload_n 1 d_Learner_keepAnswer_100 rfl rfl ?_
      refine r_getI fl_Learner_65 (by first | with_reducible assumption | rfl) rfl d_Learner_keepAnswer_101 ?_
      rw [e3, hq1]
      refine r_bipush (100) d_Learner_keepAnswer_104 (by decide) ?_
      refine r_aload_n 0 d_Learner_keepAnswer_106 rfl rfl ?_
      refine r_getR fl_Learner_18 (by first | with_reducible assumption | rfl) rfl d_Learner_keepAnswer_107 ?_
      refine r_aload_n 1 d_Learner_keepAnswer_110 rfl rfl ?_
      refine r_getI fl_Learner_65 (by first | with_reducible assumption | rfl) rfl d_Learner_keepAnswer_111 ?_
      rw [e3, hq1]
      refine r_ialdN (by first | with_reducible assumption | rfl) (by first | with_reducible assumption | omega | decide | assumption) d_Learner_keepAnswer_114 ?_
      refine r_iconst 1 d_Learner_keepAnswer_115 rfl ?_
      refine r_iadd d_Learner_keepAnswer_116 ?_
      refine r_min mm_Learner_44 d_Learner_keepAnswer_117 (Nat.le_of_ble_eq_true rfl) (by decide) ?_
      refine r_iastN (by first | with_reducible assumption | rfl) (by first | with_reducible assumption | omega | decide | assumption) d_Learner_keepAnswer_120 ?_
      refine r_aload_n 0 d_Learner_keepAnswer_121 rfl rfl ?_
      refine r_getR fl_Learner_25 (by first | with_reducible assumption | rfl) rfl d_Learner_keepAnswer_122 ?_
      refine r_iload_n 2 d_Learner_keepAnswer_125 rfl rfl ?_
      refine r_iload_n 3 d_Learner_keepAnswer_126 rfl rfl ?_
      refine r_iastN (by first | with_reducible assumption | rfl) (by first | with_reducible assumption | omega | decide | assumption) d_Learner_keepAnswer_127 ?_
      refine r_ret d_Learner_keepAnswer_128 rfl ?_
      refine ⟨rfl, ?_⟩
      rw [r3_u1, r3_u3]
      simp [keepFirm, keepRights, hh, h2, r3_1, lossS, moreS]
      rfl
  · rw [e3] at h4
    have hh : μ.1 57 1 = 0 ∨ μ.1 57 1 = 1 := bz_p h4
    refine r_aload_n 0 d_Learner_keepAnswer_7 rfl rfl ?_
    refine r_getR fl_Learner_18 (by first | with_reducible assumption | rfl) rfl d_Learner_keepAnswer_8 ?_
    refine r_iload_n 2 d_Learner_keepAnswer_11 rfl rfl ?_
    refine r_bipush (100) d_Learner_keepAnswer_12 (by decide) ?_
    refine r_aload_n 0 d_Learner_keepAnswer_14 rfl rfl ?_
    refine r_getR fl_Learner_18 (by first | with_reducible assumption | rfl) rfl d_Learner_keepAnswer_15 ?_
    refine r_iload_n 2 d_Learner_keepAnswer_18 rfl rfl ?_
    refine r_ialdN (by first | with_reducible assumption | rfl) (by first | with_reducible assumption | omega | decide | assumption) d_Learner_keepAnswer_19 ?_
    refine r_bipush (100) d_Learner_keepAnswer_20 (by decide) ?_
    refine r_aload_n 0 d_Learner_keepAnswer_22 rfl rfl ?_
    refine r_getR fl_Learner_18 (by first | with_reducible assumption | rfl) rfl d_Learner_keepAnswer_23 ?_
    refine r_iload_n 2 d_Learner_keepAnswer_26 rfl rfl ?_
    refine r_ialdN (by first | with_reducible assumption | rfl) (by first | with_reducible assumption | omega | decide | assumption) d_Learner_keepAnswer_27 ?_
    refine r_isub d_Learner_keepAnswer_28 ?_
    refine r_iconst 4 d_Learner_keepAnswer_29 rfl ?_
    refine r_idiv d_Learner_keepAnswer_30 (by first | decide | assumption) ?_
    refine r_iadd d_Learner_keepAnswer_31 ?_
    refine r_iconst 1 d_Learner_keepAnswer_32 rfl ?_
    refine r_iadd d_Learner_keepAnswer_33 ?_
    refine r_min mm_Learner_44 d_Learner_keepAnswer_34 (Nat.le_of_ble_eq_true rfl) (by decide) ?_
    refine r_iastN (by first | with_reducible assumption | rfl) (by first | with_reducible assumption | omega | decide | assumption) d_Learner_keepAnswer_37 ?_
    rw [r3_u1]
    refine r_iload_n 3 d_Learner_keepAnswer_38 rfl rfl ?_
    refine r_aload_n 0 d_Learner_keepAnswer_39 rfl rfl ?_
    refine r_getR fl_Learner_25 (by first | with_reducible assumption | rfl) rfl d_Learner_keepAnswer_40 ?_
    refine r_iload_n 2 d_Learner_keepAnswer_43 rfl rfl ?_
    refine r_ialdN (by first | with_reducible assumption | rfl) (by first | with_reducible assumption | omega | decide | assumption) d_Learner_keepAnswer_44 ?_
    refine r_icmp_eq d_Learner_keepAnswer_45 (fun h45 => ?_) (fun h45 => ?_)
    · rw [r3_3] at h45
      refine r_aload_n 0 d_Learner_keepAnswer_121 rfl rfl ?_
      refine r_getR fl_Learner_25 (by first | with_reducible assumption | rfl) rfl d_Learner_keepAnswer_122 ?_
      refine r_iload_n 2 d_Learner_keepAnswer_125 rfl rfl ?_
      refine r_iload_n 3 d_Learner_keepAnswer_126 rfl rfl ?_
      refine r_iastN (by first | with_reducible assumption | rfl) (by first | with_reducible assumption | omega | decide | assumption) d_Learner_keepAnswer_127 ?_
      refine r_ret d_Learner_keepAnswer_128 rfl ?_
      refine ⟨rfl, ?_⟩
      rw [r3_u3]
      simp [keepFirm, keepRights, hh, h45, r3_1, gainS]
    · rw [r3_3] at h45
      refine r_aload_n 0 d_Learner_keepAnswer_48 rfl rfl ?_
      refine r_getR fl_Learner_22 (by first | with_reducible assumption | rfl) rfl d_Learner_keepAnswer_49 ?_
      refine r_iload_n 2 d_Learner_keepAnswer_52 rfl rfl ?_
      refine r_bipush (9) d_Learner_keepAnswer_53 (by decide) ?_
      refine r_aload_n 0 d_Learner_keepAnswer_55 rfl rfl ?_
      refine r_getR fl_Learner_22 (by first | with_reducible assumption | rfl) rfl d_Learner_keepAnswer_56 ?_
      refine r_iload_n 2 d_Learner_keepAnswer_59 rfl rfl ?_
      refine r_ialdN (by first | with_reducible assumption | rfl) (by first | with_reducible assumption | omega | decide | assumption) d_Learner_keepAnswer_60 ?_
      refine r_iconst 1 d_Learner_keepAnswer_61 rfl ?_
      refine r_iadd d_Learner_keepAnswer_62 ?_
      refine r_min mm_Learner_44 d_Learner_keepAnswer_63 (Nat.le_of_ble_eq_true rfl) (by decide) ?_
      refine r_iastN (by first | with_reducible assumption | rfl) (by first | with_reducible assumption | omega | decide | assumption) d_Learner_keepAnswer_66 ?_
      refine r_goto d_Learner_keepAnswer_67 ?_
      refine r_aload_n 0 d_Learner_keepAnswer_121 rfl rfl ?_
      refine r_getR fl_Learner_25 (by first | with_reducible assumption | rfl) rfl d_Learner_keepAnswer_122 ?_
      refine r_iload_n 2 d_Learner_keepAnswer_125 rfl rfl ?_
      refine r_iload_n 3 d_Learner_keepAnswer_126 rfl rfl ?_
      refine r_iastN (by first | with_reducible assumption | rfl) (by first | with_reducible assumption | omega | decide | assumption) d_Learner_keepAnswer_127 ?_
      refine r_ret d_Learner_keepAnswer_128 rfl ?_
      refine ⟨rfl, ?_⟩
      rw [r3_u2, r3_u3]
      simp [keepFirm, keepRights, hh, h45, r3_1, r3_2, gainS, r9S]

/-- the WAY: the first of the two that is said at once in what is left -/
def wayS (k a : Int32) (f : Nat → Int32) (p : Nat) (t g : Int32) : Int32 :=
  if stepS k = -9 ∨ t - stepS k < 1 then -9
  else if 0 ≤ nextS p 0 ∧ onceB k a (f (nextS p 0).toNatClampNeg) (t - stepS k) g ≠ 0 then nextS p 0
  else if 0 ≤ nextS p 2 ∧ onceB k a (f (nextS p 2).toNatClampNeg) (t - stepS k) g ≠ 0 then nextS p 2 else -9
theorem next_or : ∀ p, p < 36 → ∀ s : Fin 4, nextS p (nI s.val) < 0 ∨ ∃ q : Fin 36, nextS p (nI s.val) = nI q.val := by decide +kernel
theorem next_of {p : Nat} (hp : p < 36) (s : Nat) (hs : s < 4) {x : Int32} (hx : nextS p (nI s) = x) (h : ¬ x < 0) : ∃ q, q < 36 ∧ x = nI q := by
  rcases next_or p hp ⟨s, hs⟩ with z | ⟨q, z⟩
  · rw [hx] at z; exact absurd z h
  · rw [hx] at z; exact ⟨q.val, q.isLt, z⟩
set_option maxHeartbeats 400000 in
theorem c_Answer_wayRound {c p : Nat} (hc : isL c) (hp : p < 36) (t g : Int32) (μ : Me) : CtI m_Answer_wayRound 3 [.ref c, .int (nI p), .int t, .int g] μ (wayS (μ.1 c 0) (μ.1 c 1) (μ.1 (c + 1)) p t g) μ := by
  refine Ct.of (ls := [.ref c, .int (nI p), .int t, .int g, flr, flr, flr, flr]) rfl (Nat.le_of_ble_eq_true rfl) rfl (fun X => ?_)
  obtain ⟨s9, s0, s1, s2, s3⟩ := id hc
  generalize hn0 : nextS p 0 = x0
  generalize hn2 : nextS p 2 = x2
  refine r_aload_n 0 d_Answer_wayRound_0 rfl rfl ?_
  refine r_callVi (c_Learner_step hc _) lk_Answer_46 (by first | with_reducible assumption | rfl) d_Answer_wayRound_1 rfl rfl (Nat.le_of_ble_eq_true rfl) (by decide) ?_
  refine r_istore 4 [_, _, _, _, _, _, _, _] d_Answer_wayRound_4 (by decide) rfl ?_
  refine r_iload_n 2 d_Answer_wayRound_6 rfl rfl ?_
  refine r_iload 4 d_Answer_wayRound_7 rfl ?_
  refine r_isub d_Answer_wayRound_9 ?_
  refine r_istore 5 [_, _, _, _, _, _, _, _] d_Answer_wayRound_10 (by decide) rfl ?_
  refine r_iload 4 d_Answer_wayRound_12 rfl ?_
  refine r_bipush (-9) d_Answer_wayRound_14 (by decide) ?_
  refine r_icmp_eq d_Answer_wayRound_16 (fun h16 => ?_) (fun h16 => ?_)
  · refine r_bipush (-9) d_Answer_wayRound_25 (by decide) ?_
    refine r_iret .int d_Answer_wayRound_27 rfl rfl ?_
    exact ⟨by grind [wayS], rfl⟩
  · refine r_iload 5 d_Answer_wayRound_19 rfl ?_
    refine r_iconst 1 d_Answer_wayRound_21 rfl ?_
    refine r_icmp_ge d_Answer_wayRound_22 (fun h22 => ?_) (fun h22 => ?_)
    · refine r_iload_n 1 d_Answer_wayRound_28 rfl rfl ?_
      refine r_iconst 0 d_Answer_wayRound_29 rfl ?_
      refine r_callSNi (c_S_nextDoor p hp _ _) lk_Answer_60 d_Answer_wayRound_30 rfl rfl (Nat.le_of_ble_eq_true rfl) (by decide) ?_
      skip
      refine r_istore 6 [_, _, _, _, _, _, _, _] d_Answer_wayRound_33 (by decide) rfl ?_
      rw [hn0]
      refine r_iload 6 d_Answer_wayRound_35 rfl ?_
      refine r_if_lt d_Answer_wayRound_37 (fun h37 => ?_) (fun h37 => ?_)
      · refine r_iload_n 1 d_Answer_wayRound_55 rfl rfl ?_
        refine r_iconst 2 d_Answer_wayRound_56 rfl ?_
        refine r_callSNi (c_S_nextDoor p hp _ _) lk_Answer_60 d_Answer_wayRound_57 rfl rfl (Nat.le_of_ble_eq_true rfl) (by decide) ?_
        rw [hn2]
        refine r_istore 7 [_, _, _, _, _, _, _, _] d_Answer_wayRound_60 (by decide) rfl ?_
        refine r_iload 7 d_Answer_wayRound_62 rfl ?_
        refine r_if_lt d_Answer_wayRound_64 (fun h64 => ?_) (fun h64 => ?_)
        · refine r_bipush (-9) d_Answer_wayRound_82 (by decide) ?_
          refine r_iret .int d_Answer_wayRound_84 rfl rfl ?_
          refine ⟨?_, rfl⟩
          simp only [wayS, hn0, hn2]
          grind
        · obtain ⟨q2, hq2, e2⟩ := next_of hp 2 (by decide) hn2 h64
          subst e2
          have hcl2 : (nI q2).toNatClampNeg = q2 := cl36 hq2 (by decide)
          have hps2 : (0 : Int32) ≤ nI q2 := nI_pos' (by omega)
          refine r_aload_n 0 d_Answer_wayRound_67 rfl rfl ?_
          refine r_iload 7 d_Answer_wayRound_68 rfl ?_
          refine r_iload 5 d_Answer_wayRound_70 rfl ?_
          refine r_iload_n 3 d_Answer_wayRound_72 rfl rfl ?_
          refine r_callVi (c_Learner_isAtOnce hc hq2 _ _ _) lk_Answer_24 (by first | with_reducible assumption | rfl) d_Answer_wayRound_73 rfl rfl (Nat.le_of_ble_eq_true rfl) (by decide) ?_
          refine r_if_eq d_Answer_wayRound_76 (fun h76 => ?_) (fun h76 => ?_)
          · refine r_bipush (-9) d_Answer_wayRound_82 (by decide) ?_
            refine r_iret .int d_Answer_wayRound_84 rfl rfl ?_
            refine ⟨?_, rfl⟩
            simp only [wayS, hn0, hn2]
            grind
          · refine r_iload 7 d_Answer_wayRound_79 rfl ?_
            refine r_iret .int d_Answer_wayRound_81 rfl rfl ?_
            refine ⟨?_, rfl⟩
            simp only [wayS, hn0, hn2]
            grind
      · obtain ⟨q, hq, e⟩ := next_of hp 0 (by decide) hn0 h37
        subst e
        have hcl : (nI q).toNatClampNeg = q := cl36 hq (by decide)
        have hps : (0 : Int32) ≤ nI q := nI_pos' (by omega)
        refine r_aload_n 0 d_Answer_wayRound_40 rfl rfl ?_
        refine r_iload 6 d_Answer_wayRound_41 rfl ?_
        refine r_iload 5 d_Answer_wayRound_43 rfl ?_
        refine r_iload_n 3 d_Answer_wayRound_45 rfl rfl ?_
        refine r_callVi (c_Learner_isAtOnce hc hq _ _ _) lk_Answer_24 (by first | with_reducible assumption | rfl) d_Answer_wayRound_46 rfl rfl (Nat.le_of_ble_eq_true rfl) (by decide) ?_
        refine r_if_eq d_Answer_wayRound_49 (fun h49 => ?_) (fun h49 => ?_)
        · refine r_iload_n 1 d_Answer_wayRound_55 rfl rfl ?_
          refine r_iconst 2 d_Answer_wayRound_56 rfl ?_
          refine r_callSNi (c_S_nextDoor p hp _ _) lk_Answer_60 d_Answer_wayRound_57 rfl rfl (Nat.le_of_ble_eq_true rfl) (by decide) ?_
          rw [hn2]
          refine r_istore 7 [_, _, _, _, _, _, _, _] d_Answer_wayRound_60 (by decide) rfl ?_
          refine r_iload 7 d_Answer_wayRound_62 rfl ?_
          refine r_if_lt d_Answer_wayRound_64 (fun h64 => ?_) (fun h64 => ?_)
          · refine r_bipush (-9) d_Answer_wayRound_82 (by decide) ?_
            refine r_iret .int d_Answer_wayRound_84 rfl rfl ?_
            refine ⟨?_, rfl⟩
            simp only [wayS, hn0, hn2]
            grind
          · obtain ⟨q2, hq2, e2⟩ := next_of hp 2 (by decide) hn2 h64
            subst e2
            have hcl2 : (nI q2).toNatClampNeg = q2 := cl36 hq2 (by decide)
            have hps2 : (0 : Int32) ≤ nI q2 := nI_pos' (by omega)
            refine r_aload_n 0 d_Answer_wayRound_67 rfl rfl ?_
            refine r_iload 7 d_Answer_wayRound_68 rfl ?_
            refine r_iload 5 d_Answer_wayRound_70 rfl ?_
            refine r_iload_n 3 d_Answer_wayRound_72 rfl rfl ?_
            refine r_callVi (c_Learner_isAtOnce hc hq2 _ _ _) lk_Answer_24 (by first | with_reducible assumption | rfl) d_Answer_wayRound_73 rfl rfl (Nat.le_of_ble_eq_true rfl) (by decide) ?_
            refine r_if_eq d_Answer_wayRound_76 (fun h76 => ?_) (fun h76 => ?_)
            · refine r_bipush (-9) d_Answer_wayRound_82 (by decide) ?_
              refine r_iret .int d_Answer_wayRound_84 rfl rfl ?_
              refine ⟨?_, rfl⟩
              simp only [wayS, hn0, hn2]
              grind
            · refine r_iload 7 d_Answer_wayRound_79 rfl ?_
              refine r_iret .int d_Answer_wayRound_81 rfl rfl ?_
              refine ⟨?_, rfl⟩
              simp only [wayS, hn0, hn2]
              grind
        · refine r_iload 6 d_Answer_wayRound_52 rfl ?_
          refine r_iret .int d_Answer_wayRound_54 rfl rfl ?_
          refine ⟨?_, rfl⟩
          simp only [wayS, hn0, hn2]
          grind
    · refine r_bipush (-9) d_Answer_wayRound_25 (by decide) ?_
      refine r_iret .int d_Answer_wayRound_27 rfl rfl ?_
      exact ⟨by grind [wayS], rfl⟩

/-- of those tied the one that feels firmest, of several the least: the four sides in their order -/
def ftS (k a : Int32) (f : Nat → Int32) (p : Nat) (t : Int32) : Nat → Int32 × Int32
  | 0 => (-9, -1)
  | i + 1 => if nextS p (nI i) < 0 then ftS k a f p t i else if (ftS k a f p t i).2 < feelS k a (f (nextS p (nI i)).toNatClampNeg) t ∨ (feelS k a (f (nextS p (nI i)).toNatClampNeg) t = (ftS k a f p t i).2 ∧ nextS p (nI i) < (ftS k a f p t i).1) then (nextS p (nI i), feelS k a (f (nextS p (nI i)).toNatClampNeg) t) else ftS k a f p t i
set_option maxHeartbeats 400000 in
theorem c_Answer_firmestTied {c p : Nat} (hc : isL c) (hp : p < 36) (t : Int32) (μ : Me) : CtI m_Answer_firmestTied 3 [.ref c, .int (nI p), .int t] μ (ftS (μ.1 c 0) (μ.1 c 1) (μ.1 (c + 1)) p t 4).1 μ := by
  refine Ct.of (ls := [.ref c, .int (nI p), .int t, flr, flr, flr, flr, flr]) rfl (Nat.le_of_ble_eq_true rfl) rfl (fun X => ?_)
  obtain ⟨s9, s0, s1, s2, s3⟩ := id hc
  refine r_bipush (-9) d_Answer_firmestTied_0 (by decide) ?_
  refine r_istore_n 3 [_, _, _, _, _, _, _, _] d_Answer_firmestTied_2 rfl (by decide) rfl ?_
  refine r_iconst (-1) d_Answer_firmestTied_3 rfl ?_
  refine r_istore 4 [_, _, _, _, _, _, _, _] d_Answer_firmestTied_4 (by decide) rfl ?_
  refine r_iconst 0 d_Answer_firmestTied_6 rfl ?_
  refine r_istore 5 [_, _, _, _, _, _, _, _] d_Answer_firmestTied_7 (by decide) rfl ?_
  have lp := lpN 4 (fun i (w : Int32 × Int32) => ∀ z1 z2 : Value, Wa X m_Answer_firmestTied 3 9 [.ref c, .int (nI p), .int t, .int w.1, .int w.2, .int (nI i), z1, z2] [] μ (fun r μ' => r = some (.int (ftS (μ.1 c 0) (μ.1 c 1) (μ.1 (c + 1)) p t 4).1) ∧ μ' = μ)) (fun i w => w = ftS (μ.1 c 0) (μ.1 c 1) (μ.1 (c + 1)) p t i) ?_ 0 (-9, -1) (Nat.zero_le _) rfl
  · exact lp _ _
  · intro i w hi hw hk z1 z2
    obtain ⟨w1, w2⟩ := w
    refine r_iload 5 d_Answer_firmestTied_9 rfl ?_
    refine r_iconst 4 d_Answer_firmestTied_11 rfl ?_
    refine r_icmp_ge d_Answer_firmestTied_12 (fun h12 => ?_) (fun h12 => ?_)
    · refine r_iload_n 3 d_Answer_firmestTied_73 rfl rfl ?_
      refine r_iret .int d_Answer_firmestTied_74 rfl rfl ?_
      have h1 := n_le (a := 4) h12 rfl rfl (by decide) (by omega)
      obtain rfl : i = 4 := by omega
      exact ⟨by rw [← hw], rfl⟩
    · have hl : i < 4 := n_lt (a := 4) h12 rfl rfl (by decide) (by omega)
      refine r_iload_n 1 d_Answer_firmestTied_15 rfl rfl ?_
      refine r_iload 5 d_Answer_firmestTied_16 rfl ?_
      refine r_callSNi (c_S_nextDoor p hp _ _) lk_Answer_60 d_Answer_firmestTied_18 rfl rfl (Nat.le_of_ble_eq_true rfl) (by decide) ?_
      generalize hx : nextS p (nI i) = x
      refine r_istore 6 [_, _, _, _, _, _, _, _] d_Answer_firmestTied_21 (by decide) rfl ?_
      refine r_iload 6 d_Answer_firmestTied_23 rfl ?_
      refine r_if_ge d_Answer_firmestTied_25 (fun h25 => ?_) (fun h25 => ?_)
      · obtain ⟨zq, zhq, e⟩ := next_of hp i hl hx (by grind)
        subst e
        have hcl : (nI zq).toNatClampNeg = zq := cl36 zhq (by decide)
        refine r_aload_n 0 d_Answer_firmestTied_31 rfl rfl ?_
        refine r_iload 6 d_Answer_firmestTied_32 rfl ?_
        refine r_iload_n 2 d_Answer_firmestTied_34 rfl rfl ?_
        refine r_callVi (c_Learner_feeling hc zhq _ _) lk_Answer_57 (by first | with_reducible assumption | rfl) d_Answer_firmestTied_35 rfl rfl (Nat.le_of_ble_eq_true rfl) (by decide) ?_
        refine r_istore 7 [_, _, _, _, _, _, _, _] d_Answer_firmestTied_38 (by decide) rfl ?_
        refine r_iload 7 d_Answer_firmestTied_40 rfl ?_
        refine r_iload 4 d_Answer_firmestTied_42 rfl ?_
        refine r_icmp_gt d_Answer_firmestTied_44 (fun h44 => ?_) (fun h44 => ?_)
        · refine r_iload 6 d_Answer_firmestTied_60 rfl ?_
          refine r_istore_n 3 [_, _, _, _, _, _, _, _] d_Answer_firmestTied_62 rfl (by decide) rfl ?_
          refine r_iload 7 d_Answer_firmestTied_63 rfl ?_
          refine r_istore 4 [_, _, _, _, _, _, _, _] d_Answer_firmestTied_65 (by decide) rfl ?_
          first | refine r_iincN 5 [_, _, _, _, _, _, _, _] d_Answer_firmestTied_67 (by decide) rfl rfl ?_ | refine r_iinc 5 [_, _, _, _, _, _, _, _] (1) d_Answer_firmestTied_67 (by decide) (by decide) rfl rfl ?_
          refine r_goto d_Answer_firmestTied_70 ?_
          refine hk (_, _) hl ?_ _ _
          rw [ftS, hx, ← hw]
          (try rw [hcl])
          clear hk
          first
            | exact (if_pos (Int32.not_le.mp h25)).symm
            | exact (Eq.trans (if_neg (Int32.not_lt.mpr h25)) (if_pos (Or.inl h44))).symm
            | exact (Eq.trans (if_neg (Int32.not_lt.mpr h25)) (if_pos (Or.inr ⟨h51, Int32.not_le.mp h57⟩))).symm
            | (refine (Eq.trans (if_neg (Int32.not_lt.mpr h25)) (if_neg ?_)).symm; intro zz; rcases zz with zz | zz; (exact h44 zz); (first | exact absurd zz.2 (Int32.not_lt.mpr h57) | exact absurd zz.1 h51))
        · refine r_iload 7 d_Answer_firmestTied_47 rfl ?_
          refine r_iload 4 d_Answer_firmestTied_49 rfl ?_
          refine r_icmp_ne d_Answer_firmestTied_51 (fun h51 => ?_) (fun h51 => ?_)
          · first | refine r_iincN 5 [_, _, _, _, _, _, _, _] d_Answer_firmestTied_67 (by decide) rfl rfl ?_ | refine r_iinc 5 [_, _, _, _, _, _, _, _] (1) d_Answer_firmestTied_67 (by decide) (by decide) rfl rfl ?_
            refine r_goto d_Answer_firmestTied_70 ?_
            refine hk (_, _) hl ?_ _ _
            rw [ftS, hx, ← hw]
            (try rw [hcl])
            clear hk
            first
              | exact (if_pos (Int32.not_le.mp h25)).symm
              | exact (Eq.trans (if_neg (Int32.not_lt.mpr h25)) (if_pos (Or.inl h44))).symm
              | exact (Eq.trans (if_neg (Int32.not_lt.mpr h25)) (if_pos (Or.inr ⟨h51, Int32.not_le.mp h57⟩))).symm
              | (refine (Eq.trans (if_neg (Int32.not_lt.mpr h25)) (if_neg ?_)).symm; intro zz; rcases zz with zz | zz; (exact h44 zz); (first | exact absurd zz.2 (Int32.not_lt.mpr h57) | exact absurd zz.1 h51))
          · refine r_iload 6 d_Answer_firmestTied_54 rfl ?_
            refine r_iload_n 3 d_Answer_firmestTied_56 rfl rfl ?_
            refine r_icmp_ge d_Answer_firmestTied_57 (fun h57 => ?_) (fun h57 => ?_)
            · first | refine r_iincN 5 [_, _, _, _, _, _, _, _] d_Answer_firmestTied_67 (by decide) rfl rfl ?_ | refine r_iinc 5 [_, _, _, _, _, _, _, _] (1) d_Answer_firmestTied_67 (by decide) (by decide) rfl rfl ?_
              refine r_goto d_Answer_firmestTied_70 ?_
              refine hk (_, _) hl ?_ _ _
              rw [ftS, hx, ← hw]
              (try rw [hcl])
              clear hk
              first
                | exact (if_pos (Int32.not_le.mp h25)).symm
                | exact (Eq.trans (if_neg (Int32.not_lt.mpr h25)) (if_pos (Or.inl h44))).symm
                | exact (Eq.trans (if_neg (Int32.not_lt.mpr h25)) (if_pos (Or.inr ⟨h51, Int32.not_le.mp h57⟩))).symm
                | (refine (Eq.trans (if_neg (Int32.not_lt.mpr h25)) (if_neg ?_)).symm; intro zz; rcases zz with zz | zz; (exact h44 zz); (first | exact absurd zz.2 (Int32.not_lt.mpr h57) | exact absurd zz.1 h51))
            · refine r_iload 6 d_Answer_firmestTied_60 rfl ?_
              refine r_istore_n 3 [_, _, _, _, _, _, _, _] d_Answer_firmestTied_62 rfl (by decide) rfl ?_
              refine r_iload 7 d_Answer_firmestTied_63 rfl ?_
              refine r_istore 4 [_, _, _, _, _, _, _, _] d_Answer_firmestTied_65 (by decide) rfl ?_
              first | refine r_iincN 5 [_, _, _, _, _, _, _, _] d_Answer_firmestTied_67 (by decide) rfl rfl ?_ | refine r_iinc 5 [_, _, _, _, _, _, _, _] (1) d_Answer_firmestTied_67 (by decide) (by decide) rfl rfl ?_
              refine r_goto d_Answer_firmestTied_70 ?_
              refine hk (_, _) hl ?_ _ _
              rw [ftS, hx, ← hw]
              (try rw [hcl])
              clear hk
              first
                | exact (if_pos (Int32.not_le.mp h25)).symm
                | exact (Eq.trans (if_neg (Int32.not_lt.mpr h25)) (if_pos (Or.inl h44))).symm
                | exact (Eq.trans (if_neg (Int32.not_lt.mpr h25)) (if_pos (Or.inr ⟨h51, Int32.not_le.mp h57⟩))).symm
                | (refine (Eq.trans (if_neg (Int32.not_lt.mpr h25)) (if_neg ?_)).symm; intro zz; rcases zz with zz | zz; (exact h44 zz); (first | exact absurd zz.2 (Int32.not_lt.mpr h57) | exact absurd zz.1 h51))
      · refine r_goto d_Answer_firmestTied_28 ?_
        first | refine r_iincN 5 [_, _, _, _, _, _, _, _] d_Answer_firmestTied_67 (by decide) rfl rfl ?_ | refine r_iinc 5 [_, _, _, _, _, _, _, _] (1) d_Answer_firmestTied_67 (by decide) (by decide) rfl rfl ?_
        refine r_goto d_Answer_firmestTied_70 ?_
        refine hk (_, _) hl ?_ _ _
        rw [ftS, hx, ← hw]
        (try rw [hcl])
        clear hk
        first
          | exact (if_pos (Int32.not_le.mp h25)).symm
          | exact (Eq.trans (if_neg (Int32.not_lt.mpr h25)) (if_pos (Or.inl h44))).symm
          | exact (Eq.trans (if_neg (Int32.not_lt.mpr h25)) (if_pos (Or.inr ⟨h51, Int32.not_le.mp h57⟩))).symm
          | (refine (Eq.trans (if_neg (Int32.not_lt.mpr h25)) (if_neg ?_)).symm; intro zz; rcases zz with zz | zz; (exact h44 zz); (first | exact absurd zz.2 (Int32.not_lt.mpr h57) | exact absurd zz.1 h51))

