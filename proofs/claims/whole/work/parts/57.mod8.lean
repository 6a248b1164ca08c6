/-! the reference: slips drawn, what to tell first -/
theorem saM_saM {μ : Me} {q q' : Int32 × Int32 × Int32 × Int32} : saM (saM μ q) q' = saM μ q' := by
  refine Me_ext (fun c' x => ?_) (fun _ _ => rfl)
  by_cases h1 : c' = 82
  · subst h1
    by_cases h7 : x = 7
    · subst h7; rw [saM_7, saM_7]
    · by_cases h6 : x = 6
      · subst h6; rw [saM_6, saM_6]
      · by_cases h5 : x = 5
        · subst h5; rw [saM_5, saM_5]
        · rw [saM_o h5 h6 h7, saM_o h5 h6 h7, saM_o h5 h6 h7]
  · rw [saM_ne h1, saM_ne h1, saM_ne h1]
theorem saM_rI {μ : Me} {q : Int32 × Int32 × Int32 × Int32} {c : Nat} {f : Nat → Int32} (h : c ≠ 82) : saM (rI μ c f) q = rI (saM μ q) c f := by
  rw [saM, saM, uI_rIc h, uI_rIc h, uI_rIc h]
def saL (μ : Me) (F : Nat → Int32 × Int32 × Int32 × Int32) : Nat → Me
  | 0 => μ
  | i + 1 => saM μ (F i)
theorem saL_ne {μ : Me} {F : Nat → Int32 × Int32 × Int32 × Int32} {c : Nat} (h : c ≠ 82) : ∀ i, (saL μ F i).1 c = μ.1 c
  | 0 => rfl
  | i + 1 => saM_ne h
theorem saL_o {μ : Me} {F : Nat → Int32 × Int32 × Int32 × Int32} {j : Nat} (h5 : j ≠ 5) (h6 : j ≠ 6) (h7 : j ≠ 7) : ∀ i, (saL μ F i).1 82 j = μ.1 82 j
  | 0 => rfl
  | i + 1 => saM_o h5 h6 h7
theorem saL_s {μ : Me} {F : Nat → Int32 × Int32 × Int32 × Int32} {q : Int32 × Int32 × Int32 × Int32} : ∀ i, saM (saL μ F i) q = saM μ q
  | 0 => rfl
  | i + 1 => saM_saM
theorem cut_upd {n b : Nat} {g f : Nat → Int32} {v : Int32} (h : b < n) : upd (cut n g f) b v = cut n (upd g b v) f := by
  funext x
  by_cases e : x = b
  · subst e; simp [upd, cut, h]
  · simp [upd, cut, e]
theorem cut_in {n b : Nat} {g f : Nat → Int32} (h : b < n) : cut n g f b = g b := by simp [cut, h]
def drM (μ : Me) (F : Nat → Int32 × Int32 × Int32 × Int32) (i : Nat) : Me := rI (saL μ F i) 87 (cut 36 (slF F i) (μ.1 87))
theorem drM_ne {μ : Me} {F : Nat → Int32 × Int32 × Int32 × Int32} {i c : Nat} (h : c ≠ 82) (h2 : c ≠ 87) : (drM μ F i).1 c = μ.1 c := by rw [drM, rI_ne h2, saL_ne h]
set_option maxHeartbeats 400000 in
theorem c_M_draws_no {m : Nat} (hm : m ≤ 4) (l t w : Int32) (μ : Me) (hct : μ.1 83 0 = nI m) (hG : ¬ ((0 ≤ l ∧ l < nI m) ∧ (1 ≤ t ∧ t ≤ 9) ∧ 0 ≤ w ∧ w ≤ 1)) : CtI m_M_draws 6 [.ref 82, .int l, .int t, .int w] μ (-1) μ := by
  refine Ct.of (ls := [.ref 82, .int l, .int t, .int w, flr, flr]) rfl (Nat.le_of_ble_eq_true rfl) rfl (fun X => ?_)
  refine r_aload_n 0 d_M_draws_0 rfl rfl ?_
  refine r_iload_n 1 d_M_draws_1 rfl rfl ?_
  refine r_callVi (c_M_isLearner hm _ _ hct) lk_M_115 (by first | with_reducible assumption | rfl) d_M_draws_2 rfl rfl (Nat.le_of_ble_eq_true rfl) (by decide) ?_
  refine r_if_eq d_M_draws_5 (fun h5 => ?_) (fun h5 => ?_)
  · refine r_iconst (-1) d_M_draws_22 rfl ?_
    refine r_iret .int d_M_draws_23 rfl rfl ?_
    exact ⟨rfl, rfl⟩
  · refine r_iload_n 2 d_M_draws_8 rfl rfl ?_
    refine r_callSi (c_M_isTime _ _) lk_M_142 d_M_draws_9 rfl rfl (Nat.le_of_ble_eq_true rfl) (by decide) ?_
    refine r_if_eq d_M_draws_12 (fun h12 => ?_) (fun h12 => ?_)
    · refine r_iconst (-1) d_M_draws_22 rfl ?_
      refine r_iret .int d_M_draws_23 rfl rfl ?_
      exact ⟨rfl, rfl⟩
    · refine r_iload_n 3 d_M_draws_15 rfl rfl ?_
      refine r_callSi (c_M_isSide _ _) lk_M_209 d_M_draws_16 rfl rfl (Nat.le_of_ble_eq_true rfl) (by decide) ?_
      refine r_if_ne d_M_draws_19 (fun h19 => ?_) (fun h19 => ?_)
      · exact absurd ⟨bz_p h5, bz_p h12, bz_p h19⟩ hG
      · refine r_iconst (-1) d_M_draws_22 rfl ?_
        refine r_iret .int d_M_draws_23 rfl rfl ?_
        exact ⟨rfl, rfl⟩
set_option maxHeartbeats 400000 in
theorem c_M_draws_3 (X : Nat × (Nat → Int32)) (l t w : Int32) (g : Nat → Int32) (ν : Me) (hg : ν.1 87 = g) : ∀ (i : Nat) (b : Nat), i ≤ 35 → b = mxF g i → Wa X m_M_draws 6 99 [.ref 82, .int l, .int t, .int w, .int (nI b), .int (nI (i + 1))] [] ν (fun r μ' => r = some (.int (drwS g w)) ∧ μ' = ν) := by
  refine lpN 35 _ _ ?_
  intro i b hi hb hk
  have hbi : b ≤ i := by rw [hb]; exact mxF_le _ _
  refine r_iload 5 d_M_draws_99 rfl ?_
  refine r_bipush (36) d_M_draws_101 (by decide) ?_
  refine r_icmp_ge d_M_draws_103 (fun h103 => ?_) (fun h103 => ?_)
  · have hge := n_le (a := 36) h103 rfl rfl (by decide) (by omega)
    obtain rfl : i = 35 := by omega
    refine r_aload_n 0 d_M_draws_138 rfl rfl ?_
    refine r_getR fl_M_26 (by first | with_reducible assumption | rfl) rfl d_M_draws_139 ?_
    refine r_iload 4 d_M_draws_142 rfl ?_
    refine r_ialdN (by first | with_reducible assumption | rfl) (show b < 36 by omega) d_M_draws_144 ?_
    rw [hg]
    refine r_if_ne d_M_draws_145 (fun h145 => ?_) (fun h145 => ?_)
    · refine r_iload_n 3 d_M_draws_153 rfl rfl ?_
      refine r_if_ne d_M_draws_154 (fun h154 => ?_) (fun h154 => ?_)
      · refine r_aload_n 0 d_M_draws_162 rfl rfl ?_
        refine r_getR fl_M_26 (by first | with_reducible assumption | rfl) rfl d_M_draws_163 ?_
        refine r_iload 4 d_M_draws_166 rfl ?_
        refine r_ialdN (by first | with_reducible assumption | rfl) (show b < 36 by omega) d_M_draws_168 ?_
        refine r_iret .int d_M_draws_169 rfl rfl ?_
        refine ⟨?_, rfl⟩
        rw [drwS, ← hb]
        first
          | rw [if_pos h145]
          | rw [if_neg h145, if_pos h154]
          | rw [if_neg h145, if_neg h154, hg]
      · refine r_iload 4 d_M_draws_157 rfl ?_
        refine r_goto d_M_draws_159 ?_
        refine r_iret .int d_M_draws_169 rfl rfl ?_
        refine ⟨?_, rfl⟩
        rw [drwS, ← hb]
        first
          | rw [if_pos h145]
          | rw [if_neg h145, if_pos h154]
          | rw [if_neg h145, if_neg h154, hg]
    · refine r_bipush (-3) d_M_draws_148 (by decide) ?_
      refine r_goto d_M_draws_150 ?_
      refine r_iret .int d_M_draws_169 rfl rfl ?_
      refine ⟨?_, rfl⟩
      rw [drwS, ← hb]
      first
        | rw [if_pos h145]
        | rw [if_neg h145, if_pos h154]
        | rw [if_neg h145, if_neg h154, hg]
  · have hli : i + 1 < 36 := n_lt (a := 36) h103 rfl rfl (by decide) (by omega)
    refine r_aload_n 0 d_M_draws_106 rfl rfl ?_
    refine r_getR fl_M_26 (by first | with_reducible assumption | rfl) rfl d_M_draws_107 ?_
    refine r_iload 5 d_M_draws_110 rfl ?_
    refine r_ialdN (by first | with_reducible assumption | rfl) (by first | with_reducible assumption | omega | decide | assumption) d_M_draws_112 ?_
    refine r_aload_n 0 d_M_draws_113 rfl rfl ?_
    refine r_getR fl_M_26 (by first | with_reducible assumption | rfl) rfl d_M_draws_114 ?_
    refine r_iload 4 d_M_draws_117 rfl ?_
    refine r_ialdN (by first | with_reducible assumption | rfl) (show b < 36 by omega) d_M_draws_119 ?_
    rw [hg]
    refine r_icmp_le d_M_draws_120 (fun h120 => ?_) (fun h120 => ?_)
    · refine r_iload 4 d_M_draws_128 rfl ?_
      refine r_istore 4 [_, _, _, _, _, _] d_M_draws_130 (by decide) rfl ?_
      first | refine r_iincN 5 [_, _, _, _, _, _] d_M_draws_132 (by decide) rfl rfl ?_ | refine r_iinc 5 [_, _, _, _, _, _] (1) d_M_draws_132 (by decide) (by decide) rfl rfl ?_
      refine r_goto d_M_draws_135 ?_
      refine hk _ (by omega) ?_
      rw [mxF, ← hb]
      first
        | exact (if_neg (Int32.not_lt.mpr h120)).symm
        | exact (if_pos (Int32.not_le.mp h120)).symm
    · refine r_iload 5 d_M_draws_123 rfl ?_
      refine r_goto d_M_draws_125 ?_
      refine r_istore 4 [_, _, _, _, _, _] d_M_draws_130 (by decide) rfl ?_
      first | refine r_iincN 5 [_, _, _, _, _, _] d_M_draws_132 (by decide) rfl rfl ?_ | refine r_iinc 5 [_, _, _, _, _, _] (1) d_M_draws_132 (by decide) (by decide) rfl rfl ?_
      refine r_goto d_M_draws_135 ?_
      refine hk _ (by omega) ?_
      rw [mxF, ← hb]
      first
        | exact (if_neg (Int32.not_lt.mpr h120)).symm
        | exact (if_pos (Int32.not_le.mp h120)).symm
set_option maxHeartbeats 400000 in
theorem c_M_draws {m j : Nat} (hm : m ≤ 4) (hj : j < m) (t w : Int32) (ht : 1 ≤ t ∧ t ≤ 9) (hw : 0 ≤ w ∧ w ≤ 1) (μ : Me) (hct : μ.1 83 0 = nI m) (hat : μ.1 82 1 = nI 0) (hO : LO (μ.1 83) 0 j) : CtI m_M_draws 6 [.ref 82, .int (nI j), .int t, .int w] μ (drwS (cut 36 (slF (fun p => fd (μ.1 83) 0 j p t (μ.1 84)) 36) (μ.1 87)) w) (drM μ (fun p => fd (μ.1 83) 0 j p t (μ.1 84)) 36) := by
  refine Ct.of (ls := [.ref 82, .int (nI j), .int t, .int w, flr, flr]) rfl (Nat.le_of_ble_eq_true rfl) rfl (fun X => ?_)
  have hby : ∀ p, p < 36 → (fd (μ.1 83) 0 j p t (μ.1 84)).2.1 = 2 → ∃ b, b < 36 ∧ (fd (μ.1 83) 0 j p t (μ.1 84)).2.2.2 = nI b := fun p hp z => find_by hp z
  generalize hF : (fun p => fd (μ.1 83) 0 j p t (μ.1 84)) = F
  have hFp : ∀ p, fd (μ.1 83) 0 j p t (μ.1 84) = F p := fun p => by rw [← hF]
  simp only [hFp] at hby
  refine r_aload_n 0 d_M_draws_0 rfl rfl ?_
  refine r_iload_n 1 d_M_draws_1 rfl rfl ?_
  refine r_callVi (c_M_isLearner hm _ _ hct) lk_M_115 (by first | with_reducible assumption | rfl) d_M_draws_2 rfl rfl (Nat.le_of_ble_eq_true rfl) (by decide) ?_
  refine r_if_eq d_M_draws_5 (fun h5 => absurd h5 (bzy (nIb hj hm))) (fun h5 => ?_)
  refine r_iload_n 2 d_M_draws_8 rfl rfl ?_
  refine r_callSi (c_M_isTime _ _) lk_M_142 d_M_draws_9 rfl rfl (Nat.le_of_ble_eq_true rfl) (by decide) ?_
  refine r_if_eq d_M_draws_12 (fun h12 => absurd h12 (bzy ht)) (fun h12 => ?_)
  refine r_iload_n 3 d_M_draws_15 rfl rfl ?_
  refine r_callSi (c_M_isSide _ _) lk_M_209 d_M_draws_16 rfl rfl (Nat.le_of_ble_eq_true rfl) (by decide) ?_
  refine r_if_ne d_M_draws_19 (fun h19 => ?_) (fun h19 => absurd h19 (bzy hw))
  refine r_iconst 0 d_M_draws_24 rfl ?_
  refine r_istore 4 [_, _, _, _, _, _] d_M_draws_25 (by decide) rfl ?_
  refine lpN 36 (fun i (μ1 : Me) => Wa X m_M_draws 6 27 [.ref 82, .int (nI j), .int t, .int w, .int (nI i), flr] [] μ1 _) (fun i μ1 => μ1 = rI μ 87 (cut i (fun _ => 0) (μ.1 87))) ?_ 0 μ (Nat.zero_le _) (by rw [cut_0, rI_self])
  intro i μ1 hi hv hk
  subst hv
  refine r_iload 4 d_M_draws_27 rfl ?_
  refine r_bipush (36) d_M_draws_29 (by decide) ?_
  refine r_icmp_ge d_M_draws_31 (fun h31 => ?_) (fun h31 => ?_)
  · have hge := n_le (a := 36) h31 rfl rfl (by decide) (by omega)
    obtain rfl : i = 36 := by omega
    refine r_iconst 0 d_M_draws_48 rfl ?_
    refine r_istore 4 [_, _, _, _, _, _] d_M_draws_49 (by decide) rfl ?_
    have lp := lpN 36 (fun i (_ : Unit) => Wa X m_M_draws 6 51 [.ref 82, .int (nI j), .int t, .int w, .int (nI i), flr] [] (drM μ F i) (fun r μ' => r = some (.int (drwS (cut 36 (slF F 36) (μ.1 87)) w)) ∧ μ' = drM μ F 36)) (fun _ _ => True) ?_ 0 () (Nat.zero_le _) trivial
    · exact lp
    · intro i _ hi _ hkk
      refine r_iload 4 d_M_draws_51 rfl ?_
      refine r_bipush (36) d_M_draws_53 (by decide) ?_
      refine r_icmp_ge d_M_draws_55 (fun h55 => ?_) (fun h55 => ?_)
      · have hge := n_le (a := 36) h55 rfl rfl (by decide) (by omega)
        obtain rfl : i = 36 := by omega
        refine r_iconst 0 d_M_draws_93 rfl ?_
        refine r_istore 4 [_, _, _, _, _, _] d_M_draws_94 (by decide) rfl ?_
        refine r_iconst 1 d_M_draws_96 rfl ?_
        refine r_istore 5 [_, _, _, _, _, _] d_M_draws_97 (by decide) rfl ?_
        exact c_M_draws_3 X _ _ _ _ _ (by rw [drM, rI_eq]) 0 0 (by decide) rfl
      · have hli : i < 36 := n_lt (a := 36) h55 rfl rfl (by decide) (by omega)
        have e83 : (drM μ F i).1 83 = μ.1 83 := drM_ne (by decide) (by decide)
        have e84 : (drM μ F i).1 84 = μ.1 84 := drM_ne (by decide) (by decide)
        have cs := c_M_says (A := 0) (by decide) (show j < 4 by omega) hli t ht (drM μ F i) (by rw [drM, rI_ne (by decide), saL_o (by decide) (by decide) (by decide)]; exact hat) (by rw [e83]; exact hO)
        rw [e83, e84, hFp] at cs
        refine r_aload_n 0 d_M_draws_58 rfl rfl ?_
        refine r_iload_n 1 d_M_draws_59 rfl rfl ?_
        refine r_iload 4 d_M_draws_60 rfl ?_
        refine r_iload_n 2 d_M_draws_62 rfl rfl ?_
        refine r_callVv cs lk_M_173 (by first | with_reducible assumption | rfl) d_M_draws_63 rfl rfl (Nat.le_of_ble_eq_true rfl) (by decide) ?_
        refine Wa.eqM (show saM (drM μ F i) (F i) = rI (saM μ (F i)) 87 (cut 36 (slF F i) (μ.1 87)) by rw [drM, saM_rI (by decide), saL_s]) ?_
        refine r_aload_n 0 d_M_draws_66 rfl rfl ?_
        refine r_getI fl_M_161 (by first | with_reducible assumption | rfl) rfl d_M_draws_67 ?_
        refine r_iconst 2 d_M_draws_70 rfl ?_
        rw [rI_ne (by decide), saM_5]
        refine r_icmp_ne d_M_draws_71 (fun h71 => ?_) (fun h71 => ?_)
        · first | refine r_iincN 4 [_, _, _, _, _, _] d_M_draws_87 (by decide) rfl rfl ?_ | refine r_iinc 4 [_, _, _, _, _, _] (1) d_M_draws_87 (by decide) (by decide) rfl rfl ?_
          refine r_goto d_M_draws_90 ?_
          first
            | (have z71 : ¬ (F i).2.1 = 2 := h71
               have e1 : rI (saM μ (F i)) 87 (cut 36 (slF F i) (μ.1 87)) = drM μ F (i + 1) := by rw [drM, slF, if_neg z71]; rfl
               rw [e1]
               exact hkk () hli trivial)
            | (have z71 : (F i).2.1 = 2 := h71
               have e1 : uI (rI (saM μ (F i)) 87 (cut 36 (slF F i) (μ.1 87))) 87 b (slF F i b + 1) = drM μ F (i + 1) := by rw [uI_rI, cut_upd hb, drM, slF, if_pos z71, eb, cl36 hb (by decide)]; rfl
               rw [e1]
               exact hkk () hli trivial)
        · refine r_aload_n 0 d_M_draws_74 rfl rfl ?_
          refine r_getR fl_M_26 (by first | with_reducible assumption | rfl) rfl d_M_draws_75 ?_
          refine r_aload_n 0 d_M_draws_78 rfl rfl ?_
          refine r_getI fl_M_158 (by first | with_reducible assumption | rfl) rfl d_M_draws_79 ?_
          obtain ⟨b, hb, eb⟩ := hby i hli h71
          rw [rI_ne (by decide), saM_6, eb]
          refine r_dup2 d_M_draws_82 rfl rfl ?_
          refine r_ialdN (by first | with_reducible assumption | rfl) (by first | with_reducible assumption | omega | decide | assumption) d_M_draws_83 ?_
          rw [rI_eq, cut_in hb]
          refine r_iconst 1 d_M_draws_84 rfl ?_
          refine r_iadd d_M_draws_85 ?_
          refine r_iastN (by first | with_reducible assumption | rfl) (by first | with_reducible assumption | omega | decide | assumption) d_M_draws_86 ?_
          first | refine r_iincN 4 [_, _, _, _, _, _] d_M_draws_87 (by decide) rfl rfl ?_ | refine r_iinc 4 [_, _, _, _, _, _] (1) d_M_draws_87 (by decide) (by decide) rfl rfl ?_
          refine r_goto d_M_draws_90 ?_
          first
            | (have z71 : ¬ (F i).2.1 = 2 := h71
               have e1 : rI (saM μ (F i)) 87 (cut 36 (slF F i) (μ.1 87)) = drM μ F (i + 1) := by rw [drM, slF, if_neg z71]; rfl
               rw [e1]
               exact hkk () hli trivial)
            | (have z71 : (F i).2.1 = 2 := h71
               have e1 : uI (rI (saM μ (F i)) 87 (cut 36 (slF F i) (μ.1 87))) 87 b (slF F i b + 1) = drM μ F (i + 1) := by rw [uI_rI, cut_upd hb, drM, slF, if_pos z71, eb, cl36 hb (by decide)]; rfl
               rw [e1]
               exact hkk () hli trivial)
  · have hli : i < 36 := n_lt (a := 36) h31 rfl rfl (by decide) (by omega)
    refine r_aload_n 0 d_M_draws_34 rfl rfl ?_
    refine r_getR fl_M_26 (by first | with_reducible assumption | rfl) rfl d_M_draws_35 ?_
    refine r_iload 4 d_M_draws_38 rfl ?_
    refine r_iconst 0 d_M_draws_40 rfl ?_
    refine r_iastN (by first | with_reducible assumption | rfl) (by first | with_reducible assumption | omega | decide | assumption) d_M_draws_41 ?_
    first | refine r_iincN 4 [_, _, _, _, _, _] d_M_draws_42 (by decide) rfl rfl ?_ | refine r_iinc 4 [_, _, _, _, _, _] (1) d_M_draws_42 (by decide) (by decide) rfl rfl ?_
    refine r_goto d_M_draws_45 ?_
    exact hk _ hli (by rw [uI_rI, ← cut_s])
set_option maxHeartbeats 400000 in
theorem c_M_firmBehind {n : Nat} (hn : n < 2 ^ 31) (f r : Int32) (hr : ¬ (100 * (r + 1) = 0)) (μ : Me) : CtI m_M_firmBehind 0 [.ref 82, .int f, .int r, .int (nI n)] μ (behS r (μ.1 84 0) n f) μ := by
  refine Ct.of (ls := [.ref 82, .int f, .int r, .int (nI n), flr, flr]) rfl (Nat.le_of_ble_eq_true rfl) rfl (fun X => ?_)
  refine r_iload_n 1 d_M_firmBehind_0 rfl rfl ?_
  refine r_istore 4 [_, _, _, _, _, _] d_M_firmBehind_1 (by decide) rfl ?_
  refine r_iconst 0 d_M_firmBehind_3 rfl ?_
  refine r_istore 5 [_, _, _, _, _, _] d_M_firmBehind_4 (by decide) rfl ?_
  refine lpN n (fun i (w : Int32) => Wa X m_M_firmBehind 0 6 [.ref 82, .int f, .int r, .int (nI n), .int w, .int (nI i)] [] μ _) (fun i w => w = behS r (μ.1 84 0) i f) ?_ 0 f (Nat.zero_le _) rfl
  intro i w hi hw hk
  refine r_iload 5 d_M_firmBehind_6 rfl ?_
  refine r_iload_n 3 d_M_firmBehind_8 rfl rfl ?_
  refine r_icmp_ge d_M_firmBehind_9 (fun h9 => ?_) (fun h9 => ?_)
  · refine r_iload 4 d_M_firmBehind_39 rfl ?_
    refine r_iret .int d_M_firmBehind_41 rfl rfl ?_
    have h1 := n_le h9 rfl rfl hn (by omega)
    obtain rfl : i = n := by omega
    exact ⟨by rw [hw], rfl⟩
  · refine r_iload 4 d_M_firmBehind_12 rfl ?_
    refine r_iload 4 d_M_firmBehind_14 rfl ?_
    refine r_aload_n 0 d_M_firmBehind_16 rfl rfl ?_
    refine r_getR fl_M_13 (by first | with_reducible assumption | rfl) rfl d_M_firmBehind_17 ?_
    refine r_iconst 0 d_M_firmBehind_20 rfl ?_
    refine r_ialdN (j := 0) (by first | with_reducible assumption | rfl) (by first | with_reducible assumption | omega | decide | assumption) d_M_firmBehind_21 ?_
    refine r_imul d_M_firmBehind_22 ?_
    refine r_bipush (100) d_M_firmBehind_23 (by decide) ?_
    refine r_iload_n 2 d_M_firmBehind_25 rfl rfl ?_
    refine r_iconst 1 d_M_firmBehind_26 rfl ?_
    refine r_iadd d_M_firmBehind_27 ?_
    refine r_imul d_M_firmBehind_28 ?_
    refine r_idiv d_M_firmBehind_29 (by first | decide | assumption) ?_
    refine r_isub d_M_firmBehind_30 ?_
    refine r_istore 4 [_, _, _, _, _, _] d_M_firmBehind_31 (by decide) rfl ?_
    first | refine r_iincN 5 [_, _, _, _, _, _] d_M_firmBehind_33 (by decide) rfl rfl ?_ | refine r_iinc 5 [_, _, _, _, _, _] (1) d_M_firmBehind_33 (by decide) (by decide) rfl rfl ?_
    refine r_goto d_M_firmBehind_36 ?_
    exact hk _ (by have := n_lt h9 rfl rfl hn (by omega); omega) (by rw [behS_succ, hw])
/-- told k times -/
def tol (f : Int32) : Nat → Int32
  | 0 => f
  | k + 1 => toldS (tol f k)
theorem tol_r {f : Int32} (h : 0 ≤ f ∧ f ≤ 100) : ∀ k, 0 ≤ tol f k ∧ tol f k ≤ 100
  | 0 => h
  | k + 1 => told_r (tol_r h k)
/-- behind n nights, told k times: FIRM of the PAIR p -/
def bhS (g : Nat → Int32) (j : Nat) (w : Int32) (n p k : Nat) : Int32 := behS (rM g 0 j p) w n (tol (fM g 0 j p) k)
def bhG (h : Nat → Int32) (g : Nat → Int32) (j : Nat) (w : Int32) (n N : Nat) : Nat → Int32 := fun i => if i < N then bhS g j w n (i / 3) (i % 3) else h i
theorem bh_0 {h g : Nat → Int32} {j : Nat} {w : Int32} {n : Nat} : bhG h g j w n 0 = h := by funext i; rw [bhG, if_neg (by omega)]
theorem bh_s {h g : Nat → Int32} {j : Nat} {w : Int32} {n p k : Nat} (hk : k < 3) : upd (bhG h g j w n (3 * p + k)) (3 * p + k) (bhS g j w n p k) = bhG h g j w n (3 * p + (k + 1)) := by
  funext i
  by_cases e : i = 3 * p + k
  · rw [upd, if_pos e, bhG, if_pos (by omega), show i / 3 = p by omega, show i % 3 = k by omega]
  · rw [upd, if_neg e, bhG, bhG]
    by_cases h1 : i < 3 * p + k
    · rw [if_pos h1, if_pos (by omega)]
    · rw [if_neg h1, if_neg (by omega)]
set_option maxHeartbeats 400000 in
theorem c_M_findBehind {j n : Nat} (hj : j < 4) (hn : n < 2 ^ 31) (μ : Me) (hat : μ.1 82 1 = nI 0) (hO : LO (μ.1 83) 0 j) (hr : ∀ p, p < 36 → ¬ (100 * (rM (μ.1 83) 0 j p + 1) = 0)) : CtV m_M_findBehind 2 [.ref 82, .int (nI j), .int (nI n)] μ (rI μ 86 (bhG (μ.1 86) (μ.1 83) j (μ.1 84 0) n 108)) := by
  refine Ct.of (ls := [.ref 82, .int (nI j), .int (nI n), flr, flr, flr]) rfl (Nat.le_of_ble_eq_true rfl) rfl (fun X => ?_)
  have hat1 : ∀ f, (rI μ 86 f).1 82 1 = nI 0 := fun f => by rw [rI_ne (by decide), hat]
  have e83 : ∀ f, (rI μ 86 f).1 83 = μ.1 83 := fun f => rI_ne (by decide)
  have e84 : ∀ f, (rI μ 86 f).1 84 = μ.1 84 := fun f => rI_ne (by decide)
  refine r_iconst 0 d_M_findBehind_0 rfl ?_
  refine r_istore_n 3 [_, _, _, _, _, _] d_M_findBehind_1 rfl (by decide) rfl ?_
  refine lpN 36 (fun i (μ1 : Me) => ∀ z1 z2 : Value, Wa X m_M_findBehind 2 2 [.ref 82, .int (nI j), .int (nI n), .int (nI i), z1, z2] [] μ1 _) (fun i μ1 => μ1 = rI μ 86 (bhG (μ.1 86) (μ.1 83) j (μ.1 84 0) n (3 * i))) ?_ 0 μ (Nat.zero_le _) (by rw [bh_0, rI_self]) _ _
  intro i μ1 hi hv hk z1 z2
  subst hv
  refine r_iload_n 3 d_M_findBehind_2 rfl rfl ?_
  refine r_bipush (36) d_M_findBehind_3 (by decide) ?_
  refine r_icmp_ge d_M_findBehind_5 (fun h5 => ?_) (fun h5 => ?_)
  · refine r_ret d_M_findBehind_79 rfl ?_
    have hge := n_le (a := 36) h5 rfl rfl (by decide) (by omega)
    obtain rfl : i = 36 := by omega
    exact ⟨rfl, rfl⟩
  · have hli : i < 36 := n_lt (a := 36) h5 rfl rfl (by decide) (by omega)
    refine r_aload_n 0 d_M_findBehind_8 rfl rfl ?_
    refine r_iload_n 1 d_M_findBehind_9 rfl rfl ?_
    refine r_iload_n 3 d_M_findBehind_10 rfl rfl ?_
    refine r_callVi (c_M_firmOf (A := 0) (by decide) hj hli _ (hat1 _)) lk_M_112 (by first | with_reducible assumption | rfl) d_M_findBehind_11 rfl rfl (Nat.le_of_ble_eq_true rfl) (by decide) ?_
    rw [e83]
    refine r_istore 4 [_, _, _, _, _, _] d_M_findBehind_14 (by decide) rfl ?_
    refine r_iconst 0 d_M_findBehind_16 rfl ?_
    refine r_istore 5 [_, _, _, _, _, _] d_M_findBehind_17 (by decide) rfl ?_
    have lp := lpN 3 (fun k (v : Me × Int32) => Wa X m_M_findBehind 2 19 [.ref 82, .int (nI j), .int (nI n), .int (nI i), .int v.2, .int (nI k)] [] v.1 (fun r μ' => r = none ∧ μ' = rI μ 86 (bhG (μ.1 86) (μ.1 83) j (μ.1 84 0) n 108))) (fun k v => v = (rI μ 86 (bhG (μ.1 86) (μ.1 83) j (μ.1 84 0) n (3 * i + k)), tol (fM (μ.1 83) 0 j i) k)) ?_ 0 (rI μ 86 (bhG (μ.1 86) (μ.1 83) j (μ.1 84 0) n (3 * i)), fM (μ.1 83) 0 j i) (Nat.zero_le _) rfl
    · exact lp
    · intro k v hki hv hkk
      subst hv
      refine r_iload 5 d_M_findBehind_19 rfl ?_
      refine r_iconst 3 d_M_findBehind_21 rfl ?_
      refine r_icmp_ge d_M_findBehind_22 (fun h22 => ?_) (fun h22 => ?_)
      · have hge := n_le (a := 3) h22 rfl rfl (by decide) (by omega)
        obtain rfl : k = 3 := by omega
        first | refine r_iincN 3 [_, _, _, _, _, _] d_M_findBehind_73 (by decide) rfl rfl ?_ | refine r_iinc 3 [_, _, _, _, _, _] (1) d_M_findBehind_73 (by decide) (by decide) rfl rfl ?_
        refine r_goto d_M_findBehind_76 ?_
        exact hk _ hli rfl _ _
      · have hlk : k < 3 := n_lt (a := 3) h22 rfl rfl (by decide) (by omega)
        refine r_aload_n 0 d_M_findBehind_25 rfl rfl ?_
        refine r_getR fl_M_23 (by first | with_reducible assumption | rfl) rfl d_M_findBehind_26 ?_
        refine r_iconst 3 d_M_findBehind_29 rfl ?_
        refine r_iload_n 3 d_M_findBehind_30 rfl rfl ?_
        refine r_imul d_M_findBehind_31 ?_
        refine r_iload 5 d_M_findBehind_32 rfl ?_
        refine r_iadd d_M_findBehind_34 ?_
        rw [mul3, nI_add]
        refine r_aload_n 0 d_M_findBehind_35 rfl rfl ?_
        refine r_iload 4 d_M_findBehind_36 rfl ?_
        refine r_aload_n 0 d_M_findBehind_38 rfl rfl ?_
        refine r_iload_n 1 d_M_findBehind_39 rfl rfl ?_
        refine r_iload_n 3 d_M_findBehind_40 rfl rfl ?_
        refine r_callVi (c_M_rightsOf (A := 0) (by decide) hj hli _ (hat1 _)) lk_M_127 (by first | with_reducible assumption | rfl) d_M_findBehind_41 rfl rfl (Nat.le_of_ble_eq_true rfl) (by decide) ?_
        rw [e83]
        refine r_iload_n 2 d_M_findBehind_44 rfl rfl ?_
        refine r_callVi (c_M_firmBehind hn _ _ (hr i hli) _) lk_M_219 (by first | with_reducible assumption | rfl) d_M_findBehind_45 rfl rfl (Nat.le_of_ble_eq_true rfl) (by decide) ?_
        rw [e84]
        refine r_iastN (by first | with_reducible assumption | rfl) (show 3 * i + k < 108 by omega) d_M_findBehind_48 ?_
        refine r_iload 4 d_M_findBehind_49 rfl ?_
        refine r_bipush (100) d_M_findBehind_51 (by decide) ?_
        refine r_iload 4 d_M_findBehind_53 rfl ?_
        refine r_isub d_M_findBehind_55 ?_
        refine r_bipush (6) d_M_findBehind_56 (by decide) ?_
        refine r_idiv d_M_findBehind_58 (by first | decide | assumption) ?_
        refine r_iadd d_M_findBehind_59 ?_
        refine r_iconst 1 d_M_findBehind_60 rfl ?_
        refine r_iadd d_M_findBehind_61 ?_
        refine r_callSi (c_M_kept _ _) lk_M_139 d_M_findBehind_62 rfl rfl (Nat.le_of_ble_eq_true rfl) (by decide) ?_
        rw [told_e (tol_r (hO.2 i hli) k)]
        refine r_istore 4 [_, _, _, _, _, _] d_M_findBehind_65 (by decide) rfl ?_
        first | refine r_iincN 5 [_, _, _, _, _, _] d_M_findBehind_67 (by decide) rfl rfl ?_ | refine r_iinc 5 [_, _, _, _, _, _] (1) d_M_findBehind_67 (by decide) (by decide) rfl rfl ?_
        refine r_goto d_M_findBehind_70 ?_
        refine hkk (rI μ 86 (bhG (μ.1 86) (μ.1 83) j (μ.1 84 0) n (3 * i + (k + 1))), toldS (tol (fM (μ.1 83) 0 j i) k)) hlk rfl |> fun zz => ?_
        refine Wa.eqM ?_ zz
        show uI (rI μ 86 _) 86 (3 * i + k) (bhS (μ.1 83) j (μ.1 84 0) n i k) = rI μ 86 _
        rw [uI_rI, bh_s hlk]
