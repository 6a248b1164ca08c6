/-- the first PAIR that fewest know, among the first i -/
def hdF (g : Nat → Nat) : Nat → Nat × Nat
  | 0 => (0, 5)
  | i + 1 => if g i < (hdF g i).2 then (i, g i) else hdF g i
theorem hdF_lt (g : Nat → Nat) (hg : ∀ i, g i ≤ 4) : ∀ i, (hdF g i).1 ≤ 36 ∧ (hdF g i).2 ≤ 5 ∨ 36 < i
  | 0 => Or.inl ⟨by simp [hdF], by simp [hdF]⟩
  | i + 1 => by
    rcases hdF_lt g hg i with h | h
    · by_cases h36 : 36 < i + 1
      · exact Or.inr h36
      · refine Or.inl ?_
        rw [hdF]
        split
        · exact ⟨by show i ≤ 36; omega, by have := hg i; show g i ≤ 5; omega⟩
        · exact h
    · exact Or.inr (by omega)
def allkn (μ : Me) (t : Int32) (m p : Nat) : Nat := hmkF (lkn μ t p) m
theorem allkn_le (μ : Me) (t : Int32) (m p : Nat) (hm : m ≤ 4) : allkn μ t m p ≤ 4 := Nat.le_trans (hmkF_le _ m) hm
theorem hmk_congr {B B' : Nat → Bool} : ∀ i, (∀ j, j < i → B j = B' j) → hmkF B i = hmkF B' i
  | 0, _ => rfl
  | i + 1, h => by rw [hmkF, hmkF, hmk_congr i (fun j hj => h j (by omega)), h i (by omega)]
theorem lastA_m {μ : Me} {F : Nat → Int32 × Int32 × Int32 × Int32} {m : Nat} (hm : 0 < m) : lastA μ F m = ansM μ (F (m - 1)) := by
  cases m with
  | zero => omega
  | succ k => rfl
theorem allkn_ans {μ : Me} {q : Int32 × Int32 × Int32 × Int32} {t : Int32} {m p : Nat} (hm : m ≤ 4) : allkn (ansM μ q) t m p = allkn μ t m p := hmk_congr m (fun j hj => lkn_ans (by omega))
/-- what is found last while the hardest is sought -/
def hdM (μ : Me) (t : Int32) (m : Nat) : Nat → Me := lastA μ (fun p => lfd μ t p (m - 1))
set_option maxHeartbeats 400000 in
theorem c_S_hardest_bad {t : Int32} (hP : ¬ (1 ≤ t ∧ t ≤ 9)) (μ : Me) : CtI m_S_hardest 6 [.ref 0, .int t] μ (-1) μ := by
  refine Ct.of (ls := [.ref 0, .int t, flr, flr, flr, flr]) rfl (Nat.le_of_ble_eq_true rfl) rfl (fun X => ?_)
  refine r_iload_n 1 d_S_hardest_0 rfl rfl ?_
  refine r_callSi (c_S_isSeconds _ _) lk_S_190 d_S_hardest_1 rfl rfl (Nat.le_of_ble_eq_true rfl) (by decide) ?_
  refine r_if_ne d_S_hardest_4 (fun h4 => absurd (bz_0.mpr hP) h4) (fun h4 => ?_)
  refine r_iconst (-1) d_S_hardest_7 rfl ?_
  refine r_iret .int d_S_hardest_8 rfl rfl ?_
  exact ⟨rfl, rfl⟩
set_option maxHeartbeats 400000 in
theorem c_S_hardest_none {t : Int32} (hP : 1 ≤ t ∧ t ≤ 9) (μ : Me) (hct : μ.1 1 1 = nI 0) : CtI m_S_hardest 6 [.ref 0, .int t] μ (-3) μ := by
  refine Ct.of (ls := [.ref 0, .int t, flr, flr, flr, flr]) rfl (Nat.le_of_ble_eq_true rfl) rfl (fun X => ?_)
  refine r_iload_n 1 d_S_hardest_0 rfl rfl ?_
  refine r_callSi (c_S_isSeconds _ _) lk_S_190 d_S_hardest_1 rfl rfl (Nat.le_of_ble_eq_true rfl) (by decide) ?_
  refine r_if_ne d_S_hardest_4 (fun h4 => ?_) (fun h4 => absurd h4 (fun z => bz_np z hP))
  refine r_aload_n 0 d_S_hardest_9 rfl rfl ?_
  refine r_getR fl_S_12 (by first | with_reducible assumption | rfl) rfl d_S_hardest_10 ?_
  refine r_getI fl_S_122 (by first | with_reducible assumption | rfl) rfl d_S_hardest_13 ?_
  refine r_if_ne d_S_hardest_16 (fun h16 => absurd (by rw [hct]; rfl) h16) (fun h16 => ?_)
  refine r_bipush (-3) d_S_hardest_19 (by decide) ?_
  refine r_iret .int d_S_hardest_21 rfl rfl ?_
  exact ⟨rfl, rfl⟩
set_option maxHeartbeats 400000 in
theorem c_S_hardest {t : Int32} {m : Nat} (hP : 1 ≤ t ∧ t ≤ 9) (h0 : 0 < m) (hm : m ≤ 4) (μ : Me) (hct : μ.1 1 1 = nI m) : CtI m_S_hardest 6 [.ref 0, .int t] μ (nI (hdF (allkn μ t m) 36).1) (hdM μ t m 36) := by
  refine Ct.of (ls := [.ref 0, .int t, flr, flr, flr, flr]) rfl (Nat.le_of_ble_eq_true rfl) rfl (fun X => ?_)
  have e1 : ∀ i, (hdM μ t m i).1 1 = μ.1 1 := fun i => lastA_ne (by decide) i
  have hg := fun i => allkn_le μ t m i hm
  have eN : ∀ i p, allkn (hdM μ t m i) t m p = allkn μ t m p := fun i p => by
    cases i with
    | zero => rfl
    | succ i => exact allkn_ans hm
  have eM : ∀ i p, lastA (hdM μ t m i) (lfd (hdM μ t m i) t p) m = ansM μ (lfd μ t p (m - 1)) := fun i p => by
    rw [lastA_m h0]
    cases i with
    | zero => rfl
    | succ i => rw [show hdM μ t m (i + 1) = ansM μ (lfd μ t i (m - 1)) from rfl, lfd_ans (by omega), ansM_ansM]
  refine r_iload_n 1 d_S_hardest_0 rfl rfl ?_
  refine r_callSi (c_S_isSeconds _ _) lk_S_190 d_S_hardest_1 rfl rfl (Nat.le_of_ble_eq_true rfl) (by decide) ?_
  refine r_if_ne d_S_hardest_4 (fun h4 => ?_) (fun h4 => absurd h4 (fun z => bz_np z hP))
  refine r_aload_n 0 d_S_hardest_9 rfl rfl ?_
  refine r_getR fl_S_12 (by first | with_reducible assumption | rfl) rfl d_S_hardest_10 ?_
  refine r_getI fl_S_122 (by first | with_reducible assumption | rfl) rfl d_S_hardest_13 ?_
  refine r_if_ne d_S_hardest_16 (fun h16 => ?_) (fun h16 => absurd h16 (by rw [hct]; exact nI_ne0 h0 (by omega)))
  refine r_iconst 0 d_S_hardest_22 rfl ?_
  refine r_istore_n 2 [_, _, _, _, _, _] d_S_hardest_23 rfl (by decide) rfl ?_
  refine r_iconst 5 d_S_hardest_24 rfl ?_
  refine r_istore_n 3 [_, _, _, _, _, _] d_S_hardest_25 rfl (by decide) rfl ?_
  refine r_iconst 0 d_S_hardest_26 rfl ?_
  refine r_istore 4 [_, _, _, _, _, _] d_S_hardest_27 (by decide) rfl ?_
  have lp := lpN 36 (fun i (w : Nat × Nat) => ∀ z1 : Value, Wa X m_S_hardest 6 29 [.ref 0, .int t, .int (nI w.1), .int (nI w.2), .int (nI i), z1] [] (hdM μ t m i) (fun r μ' => r = some (.int (nI (hdF (allkn μ t m) 36).1)) ∧ μ' = hdM μ t m 36)) (fun i w => w = hdF (allkn μ t m) i) ?_ 0 (0, 5) (Nat.zero_le _) rfl
  · exact lp _
  · intro i w hi hw hk z1
    refine r_iload 4 d_S_hardest_29 rfl ?_
    refine r_bipush (36) d_S_hardest_31 (by decide) ?_
    refine r_icmp_ge d_S_hardest_33 (fun h33 => ?_) (fun h33 => ?_)
    · refine r_iload_n 2 d_S_hardest_63 rfl rfl ?_
      refine r_iret .int d_S_hardest_64 rfl rfl ?_
      have hge := n_le (a := 36) h33 rfl rfl (by decide) (by omega)
      obtain rfl : i = 36 := by omega
      exact ⟨by rw [← hw], rfl⟩
    · have hl : i < 36 := n_lt (a := 36) h33 rfl rfl (by decide) (by omega)
      have hb := hdF_lt (allkn μ t m) hg i
      rw [← hw] at hb
      have hgi := hg i
      refine r_aload_n 0 d_S_hardest_36 rfl rfl ?_
      refine r_iload 4 d_S_hardest_37 rfl ?_
      refine r_iload_n 1 d_S_hardest_39 rfl rfl ?_
      refine r_callVi (c_S_howManyKnow hm hl _ _ (by rw [e1, hct])) lk_S_271 (by first | with_reducible assumption | rfl) d_S_hardest_40 rfl rfl (Nat.le_of_ble_eq_true rfl) (by decide) ?_
      rw [show hmkF (lkn (hdM μ t m i) t i) m = allkn μ t m i from eN i i, eM, show ansM μ (lfd μ t i (m - 1)) = hdM μ t m (i + 1) from rfl]
      refine r_istore 5 [_, _, _, _, _, _] d_S_hardest_43 (by decide) rfl ?_
      refine r_iload 5 d_S_hardest_45 rfl ?_
      refine r_iload_n 3 d_S_hardest_47 rfl rfl ?_
      refine r_icmp_ge d_S_hardest_48 (fun h48 => ?_) (fun h48 => ?_)
      · first | refine r_iincN 4 [_, _, _, _, _, _] d_S_hardest_57 (by decide) rfl rfl ?_ | refine r_iinc 4 [_, _, _, _, _, _] (1) d_S_hardest_57 (by decide) (by decide) rfl rfl ?_
        refine r_goto d_S_hardest_60 ?_
        refine hk (_, _) hl ?_ _
        rw [hdF, ← hw]
        first
          | exact (if_neg (Nat.not_lt.mpr (n_le h48 rfl rfl (by omega) (by omega)))).symm
          | exact (if_pos (n_lt h48 rfl rfl (by omega) (by omega))).symm
      · refine r_iload 5 d_S_hardest_51 rfl ?_
        refine r_istore_n 3 [_, _, _, _, _, _] d_S_hardest_53 rfl (by decide) rfl ?_
        refine r_iload 4 d_S_hardest_54 rfl ?_
        refine r_istore_n 2 [_, _, _, _, _, _] d_S_hardest_56 rfl (by decide) rfl ?_
        first | refine r_iincN 4 [_, _, _, _, _, _] d_S_hardest_57 (by decide) rfl rfl ?_ | refine r_iinc 4 [_, _, _, _, _, _] (1) d_S_hardest_57 (by decide) (by decide) rfl rfl ?_
        refine r_goto d_S_hardest_60 ?_
        refine hk (_, _) hl ?_ _
        rw [hdF, ← hw]
        first
          | exact (if_neg (Nat.not_lt.mpr (n_le h48 rfl rfl (by omega) (by omega)))).symm
          | exact (if_pos (n_lt h48 rfl rfl (by omega) (by omega))).symm
/-- how often one slips onto each, from the first i -/
def slF (F : Nat → Int32 × Int32 × Int32 × Int32) : Nat → Nat → Int32
  | 0 => fun _ => 0
  | i + 1 => if (F i).2.1 = 2 then upd (slF F i) (F i).2.2.2.toNatClampNeg (slF F i (F i).2.2.2.toNatClampNeg + 1) else slF F i
def cF (μ : Me) (c : Nat) (t : Int32) (p : Nat) : Int32 × Int32 × Int32 × Int32 := findS (μ.1 c 0) (μ.1 c 1) (μ.1 (c + 1)) p t (μ.1 3 1) (μ.1 3 2)
def slM (μ : Me) (c : Nat) (t : Int32) (i : Nat) : Me := lastA (rI μ 61 (cut 36 (slF (cF μ c t) i) (μ.1 61))) (cF μ c t) i
theorem slM_ne {μ : Me} {c c' i : Nat} {t : Int32} (h : c' ≠ 57) (h2 : c' ≠ 61) : (slM μ c t i).1 c' = μ.1 c' := by rw [slM, lastA_ne h, rI_ne h2]
theorem ans_rI {μ : Me} {q : Int32 × Int32 × Int32 × Int32} {c : Nat} {f : Nat → Int32} (h : c ≠ 57) : ansM (rI μ c f) q = rI (ansM μ q) c f := by
  refine Me_ext (fun c' j' => ?_) (fun _ _ => rfl)
  by_cases h1 : c' = c
  · subst h1; simp [ansM, uI, rI, h]
  · by_cases h2 : c' = 57
    · subst h2; simp [ansM, uI, rI, h1]
    · simp [ansM, uI, rI, h1, h2]
set_option maxHeartbeats 400000 in
theorem c_S_countSlips {c : Nat} (hc : isL c) (t : Int32) (μ : Me) : CtV m_S_countSlips 5 [.ref 0, .ref c, .int t] μ (slM μ c t 36) := by
  refine Ct.of (ls := [.ref 0, .ref c, .int t, flr]) rfl (Nat.le_of_ble_eq_true rfl) rfl (fun X => ?_)
  obtain ⟨s9, s0, s1, s2, s3⟩ := id hc
  have lp2 := lpN 36 (fun i (_ : Unit) => Wa X m_S_countSlips 5 23 [.ref 0, .ref c, .int t, .int (nI i)] [] (slM μ c t i) (fun r μ' => r = none ∧ μ' = slM μ c t 36)) (fun _ _ => True) ?_ 0 () (Nat.zero_le _) trivial
  · skip
    refine r_iconst 0 d_S_countSlips_0 rfl ?_
    refine r_istore_n 3 [_, _, _, _] d_S_countSlips_1 rfl (by decide) rfl ?_
    refine lpN 36 (fun i (μ1 : Me) => Wa X m_S_countSlips 5 2 [.ref 0, .ref c, .int t, .int (nI i)] [] μ1 _) (fun i μ1 => μ1 = rI μ 61 (cut i (fun _ => 0) (μ.1 61))) ?_ 0 _ (Nat.zero_le _) (by rw [cut_0, rI_self])
    intro i μ1 hi hw hk
    subst hw
    refine r_iload_n 3 d_S_countSlips_2 rfl rfl ?_
    refine r_bipush (36) d_S_countSlips_3 (by decide) ?_
    refine r_icmp_ge d_S_countSlips_5 (fun h5 => ?_) (fun h5 => ?_)
    · have hge := n_le (a := 36) h5 rfl rfl (by decide) (by omega)
      obtain rfl : i = 36 := by omega
      refine r_iconst 0 d_S_countSlips_21 rfl ?_
      refine r_istore_n 3 [_, _, _, _] d_S_countSlips_22 rfl (by decide) rfl ?_
      exact lp2
    · have hl : i < 36 := n_lt (a := 36) h5 rfl rfl (by decide) (by omega)
      refine r_aload_n 0 d_S_countSlips_8 rfl rfl ?_
      refine r_getR fl_S_58 (by first | with_reducible assumption | rfl) rfl d_S_countSlips_9 ?_
      refine r_iload_n 3 d_S_countSlips_12 rfl rfl ?_
      refine r_iconst 0 d_S_countSlips_13 rfl ?_
      refine r_iastN (by first | with_reducible assumption | rfl) (by first | with_reducible assumption | omega | decide | assumption) d_S_countSlips_14 ?_
      first | refine r_iincN 3 [_, _, _, _] d_S_countSlips_15 (by decide) rfl rfl ?_ | refine r_iinc 3 [_, _, _, _] (1) d_S_countSlips_15 (by decide) (by decide) rfl rfl ?_
      refine r_goto d_S_countSlips_18 ?_
      refine hk _ hl ?_
      rw [uI_rI, ← cut_s]
  · intro i _ hi _ hk
    refine r_iload_n 3 d_S_countSlips_23 rfl rfl ?_
    refine r_bipush (36) d_S_countSlips_24 (by decide) ?_
    refine r_icmp_ge d_S_countSlips_26 (fun h26 => ?_) (fun h26 => ?_)
    · refine r_ret d_S_countSlips_79 rfl ?_
      have hge := n_le (a := 36) h26 rfl rfl (by decide) (by omega)
      obtain rfl : i = 36 := by omega
      exact ⟨rfl, rfl⟩
    · have hl : i < 36 := n_lt (a := 36) h26 rfl rfl (by decide) (by omega)
      refine r_aload_n 0 d_S_countSlips_29 rfl rfl ?_
      refine r_getR fl_S_47 (by first | with_reducible assumption | rfl) rfl d_S_countSlips_30 ?_
      refine r_aload_n 1 d_S_countSlips_33 rfl rfl ?_
      refine r_iload_n 3 d_S_countSlips_34 rfl rfl ?_
      refine r_iload_n 2 d_S_countSlips_35 rfl rfl ?_
      refine r_aload_n 0 d_S_countSlips_36 rfl rfl ?_
      refine r_getR fl_S_12 (by first | with_reducible assumption | rfl) rfl d_S_countSlips_37 ?_
      refine r_getR fl_S_184 (by first | with_reducible assumption | rfl) rfl d_S_countSlips_40 ?_
      refine r_callVv (c_Answer_find hc hl rfl _ _) lk_S_196 (by first | with_reducible assumption | rfl) d_S_countSlips_43 rfl rfl (Nat.le_of_ble_eq_true rfl) (by decide) ?_
      rw [slM_ne (c' := c) (by omega) (by omega), slM_ne (c' := c + 1) (by omega) (by omega), slM_ne (c' := 3) (by decide) (by decide), show findS (μ.1 c 0) (μ.1 c 1) (μ.1 (c + 1)) i t (μ.1 3 1) (μ.1 3 2) = cF μ c t i from rfl, show ansM (slM μ c t i) (cF μ c t i) = ansM (rI μ 61 (cut 36 (slF (cF μ c t) i) (μ.1 61))) (cF μ c t i) from lastA_s i]
      refine r_aload_n 0 d_S_countSlips_46 rfl rfl ?_
      refine r_getR fl_S_47 (by first | with_reducible assumption | rfl) rfl d_S_countSlips_47 ?_
      refine r_getI fl_S_203 (by first | with_reducible assumption | rfl) rfl d_S_countSlips_50 ?_
      refine r_iconst 2 d_S_countSlips_53 rfl ?_
      rw [ansM_1]
      refine r_icmp_ne d_S_countSlips_54 (fun h54 => ?_) (fun h54 => ?_)
      · first | refine r_iincN 3 [_, _, _, _] d_S_countSlips_73 (by decide) rfl rfl ?_ | refine r_iinc 3 [_, _, _, _] (1) d_S_countSlips_73 (by decide) (by decide) rfl rfl ?_
        refine r_goto d_S_countSlips_76 ?_
        refine Wa.eqM ?_ (hk () hl trivial)
        rw [slM, lastA]
        first
          | (rw [slF, if_neg h54])
          | (rw [slF, if_pos h54, zeq, cl36 zhq (by decide), ans_rI (by decide), uI_rI, ans_rI (by decide), rI_eq]
             congr 1
             funext zp
             by_cases z1 : zp = zq
             · subst z1; simp [upd, cut, zhq]
             · simp [upd, cut, z1])
      · obtain ⟨zq, zhq, zeq⟩ := find_by (k := μ.1 c 0) (a := μ.1 c 1) (f := μ.1 (c + 1)) (t := t) (g := μ.1 3 1) (s := μ.1 3 2) hl h54
        have zeq : (cF μ c t i).2.2.2 = nI zq := zeq
        refine r_aload_n 0 d_S_countSlips_57 rfl rfl ?_
        refine r_getR fl_S_58 (by first | with_reducible assumption | rfl) rfl d_S_countSlips_58 ?_
        refine r_aload_n 0 d_S_countSlips_61 rfl rfl ?_
        refine r_getR fl_S_47 (by first | with_reducible assumption | rfl) rfl d_S_countSlips_62 ?_
        refine r_getI fl_S_209 (by first | with_reducible assumption | rfl) rfl d_S_countSlips_65 ?_
        rw [ansM_3, zeq]
        refine r_dup2 d_S_countSlips_68 rfl rfl ?_
        refine r_ialdN (by first | with_reducible assumption | rfl) (by first | with_reducible assumption | omega | decide | assumption) d_S_countSlips_69 ?_
        refine r_iconst 1 d_S_countSlips_70 rfl ?_
        refine r_iadd d_S_countSlips_71 ?_
        refine r_iastN (by first | with_reducible assumption | rfl) (by first | with_reducible assumption | omega | decide | assumption) d_S_countSlips_72 ?_
        first | refine r_iincN 3 [_, _, _, _] d_S_countSlips_73 (by decide) rfl rfl ?_ | refine r_iinc 3 [_, _, _, _] (1) d_S_countSlips_73 (by decide) (by decide) rfl rfl ?_
        refine r_goto d_S_countSlips_76 ?_
        refine Wa.eqM ?_ (hk () hl trivial)
        rw [slM, lastA]
        first
          | (rw [slF, if_neg h54])
          | (rw [slF, if_pos h54, zeq, cl36 zhq (by decide), ans_rI (by decide), uI_rI, ans_rI (by decide), rI_eq]
             congr 1
             funext zp
             by_cases z1 : zp = zq
             · subst z1; simp [upd, cut, zhq]
             · simp [upd, cut, z1])
