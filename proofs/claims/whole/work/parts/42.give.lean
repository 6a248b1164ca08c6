/-! THE LESSON is GIVEN -/
def LsOk (so ab : Nat → Int32) (n : Nat) : Prop := ∀ i, i < n → (so i = 0 ∧ ∃ p, p < 36 ∧ ab i = nI p) ∨ (so i = 1 ∧ ∃ p, p < 36 ∧ ab i = nI p) ∨ (so i = 2 ∧ ∃ p, p ≤ 9 ∧ ab i = nI p)
def gstep (m c : Nat) (ν : Me) (so ab se : Int32) : Me :=
  if so = 0 then keepM (ansM ν (cF ν c se ab.toNatClampNeg)) c ab.toNatClampNeg (ν.1 1 3) (cF ν c se ab.toNatClampNeg)
  else if so = 1 then uI ν (c + 1) ab.toNatClampNeg (toldS (ν.1 (c + 1) ab.toNatClampNeg))
  else uI (restM (ν.1 3 0) ab.toNatClampNeg ν m) 1 3 (ν.1 1 3 + ab)
def prodB (q : Int32 × Int32 × Int32 × Int32) : Bool := decide (q.2.1 = 0 ∨ q.2.1 = 1)
def gvF (m c : Nat) (so ab se : Nat → Int32) (μ : Me) : Nat → Me × Nat
  | 0 => (μ, 0)
  | i + 1 => (gstep m c (gvF m c so ab se μ i).1 (so i) (ab i) (se i), if so i = 0 ∧ prodB (cF (gvF m c so ab se μ i).1 c (se i) (ab i).toNatClampNeg) = true then (gvF m c so ab se μ i).2 + 1 else (gvF m c so ab se μ i).2)
theorem gstep_lo {m j : Nat} (ν : Me) (so ab se : Int32) {c' : Nat} (h1 : c' ≠ 1) (h2 : c' ≤ 7) : (gstep m (8 + 4 * j) ν so ab se).1 c' = ν.1 c' := by
  unfold gstep
  split
  · rw [keepM, r3_ne (by omega) (by omega) (by omega), ansM_ne (by omega)]
  · split
    · rw [uI_ne (by omega)]
    · rw [uI_ne h1, restM_ne _ _ _ _ _ (fun i _ => by omega)]
theorem gstep_11 {m j : Nat} (ν : Me) (so ab se : Int32) : (gstep m (8 + 4 * j) ν so ab se).1 1 1 = ν.1 1 1 := by
  unfold gstep
  split
  · rw [keepM, r3_ne (by omega) (by omega) (by omega), ansM_ne (by omega)]
  · split
    · rw [uI_ne (by omega)]
    · rw [uI_off (by decide), restM_ne _ _ _ _ _ (fun i _ => by omega)]
/-- RIGHTS are from 0 to 9 -/
def RtOk (μ : Me) (m : Nat) : Prop := ∀ i, i < m → ∀ p, p < 36 → ∃ r, r ≤ 9 ∧ μ.1 (8 + 4 * i + 2) p = nI r
theorem r100 : ∀ r, r ≤ 9 → ¬ (100 * (nI r + 1) = 0) := by decide
theorem RtOk.ne {μ : Me} {m : Nat} (h : RtOk μ m) : ∀ i, i < m → ∀ p, p < 36 → ¬ (100 * (μ.1 (8 + 4 * i + 2) p + 1) = 0) := fun i hi p hp => by
  obtain ⟨r, hr, e⟩ := h i hi p hp
  rw [e]
  exact r100 r hr
theorem r9_le : ∀ r, r ≤ 9 → ∃ r', r' ≤ 9 ∧ r9S (nI r) = nI r' := by
  intro r hr
  have h : ∀ r : Fin 10, ∃ r' : Fin 10, r9S (nI r.val) = nI r'.val := by decide
  obtain ⟨r', e⟩ := h ⟨r, by omega⟩
  exact ⟨r'.val, by omega, e⟩
theorem keepR_ok {how day : Int32} {r l : Nat → Int32} {p : Nat} (h : ∀ q, q < 36 → ∃ k, k ≤ 9 ∧ r q = nI k) (hp : p < 36) : ∀ q, q < 36 → ∃ k, k ≤ 9 ∧ keepRights how day r l p q = nI k := by
  intro q hq
  unfold keepRights
  split
  · by_cases e : q = p
    · subst e
      obtain ⟨k, hk, e⟩ := h q hq
      obtain ⟨k', hk', e'⟩ := r9_le k hk
      exact ⟨k', hk', by simp only [upd, if_true]; rw [e, e']⟩
    · obtain ⟨k, hk, e2⟩ := h q hq
      exact ⟨k, hk, by simp only [upd, e, if_false]; exact e2⟩
  · exact h q hq
theorem gstep_rt {m j : Nat} (hj : j < m) (hm : m ≤ 4) {ν : Me} (h : RtOk ν m) (so ab se : Int32) (hab : so = 0 → ab.toNatClampNeg < 36) : RtOk (gstep m (8 + 4 * j) ν so ab se) m := by
  intro i hi p hp
  unfold gstep
  split
  · rename_i h0
    by_cases e : i = j
    · subst e
      rw [keepM, r3_2, ansM_ne (by omega), ansM_ne (by omega)]
      exact keepR_ok (h i hi) (hab h0) p hp
    · rw [keepM, r3_ne (by omega) (by omega) (by omega), ansM_ne (by omega)]
      exact h i hi p hp
  · split
    · rw [uI_ne (by omega)]
      exact h i hi p hp
    · rw [uI_ne (by omega), restM_ne _ _ _ _ _ (fun i _ => by omega)]
      exact h i hi p hp
theorem gv_lo {m j : Nat} {so ab se : Nat → Int32} {μ : Me} {c' : Nat} (h1 : c' ≠ 1) (h2 : c' ≤ 7) : ∀ i, (gvF m (8 + 4 * j) so ab se μ i).1.1 c' = μ.1 c'
  | 0 => rfl
  | i + 1 => by rw [gvF, gstep_lo _ _ _ _ h1 h2, gv_lo h1 h2 i]
theorem gv_11 {m j : Nat} {so ab se : Nat → Int32} {μ : Me} : ∀ i, (gvF m (8 + 4 * j) so ab se μ i).1.1 1 1 = μ.1 1 1
  | 0 => rfl
  | i + 1 => by rw [gvF, gstep_11, gv_11 i]
theorem gv_rt {m j n : Nat} (hj : j < m) (hm : m ≤ 4) {so ab se : Nat → Int32} {μ : Me} (h : RtOk μ m) (hL : LsOk so ab n) : ∀ i, i ≤ n → RtOk (gvF m (8 + 4 * j) so ab se μ i).1 m
  | 0, _ => h
  | i + 1, hi => by
    rw [gvF]
    refine gstep_rt hj hm (gv_rt hj hm h hL i (by omega)) _ _ _ (fun z => ?_)
    rcases hL i (by omega) with ⟨-, p, hp, e⟩ | ⟨z', -⟩ | ⟨z', -⟩
    · rw [e, cl36 hp (by decide)]; exact hp
    · rw [z] at z'; exact absurd z' (by decide)
    · rw [z] at z'; exact absurd z' (by decide)
theorem gv_cnt {m c : Nat} {so ab se : Nat → Int32} {μ : Me} : ∀ i, (gvF m c so ab se μ i).2 ≤ i
  | 0 => Nat.le_refl _
  | i + 1 => by
    have := gv_cnt (m := m) (c := c) (so := so) (ab := ab) (se := se) (μ := μ) i
    rw [gvF]
    simp only
    split <;> omega
set_option maxHeartbeats 400000 in
theorem c_S_give_no {m : Nat} (l : Int32) (μ : Me) (hct : μ.1 1 1 = nI m) (hG : ¬ (0 ≤ l ∧ l < nI m)) : CtI m_S_give 5 [.ref 0, .int l] μ (-1) μ := by
  refine Ct.of (ls := [.ref 0, .int l, flr, flr, flr, flr]) rfl (Nat.le_of_ble_eq_true rfl) rfl (fun X => ?_)
  have hno := lr_no hG
  rw [← hct] at hno
  refine r_aload_n 0 d_S_give_0 rfl rfl ?_
  refine r_getR fl_S_12 (by first | with_reducible assumption | rfl) rfl d_S_give_1 ?_
  refine r_iload_n 1 d_S_give_4 rfl rfl ?_
  refine r_callVa (c_School_learnerAt_no _ _ hno) lk_S_127 (by first | with_reducible assumption | rfl) d_S_give_5 rfl rfl (Nat.le_of_ble_eq_true rfl) (by decide) ?_
  refine r_astore_nN 2 [_, _, _, _, _, _] d_S_give_8 rfl (by decide) rfl ?_
  refine r_aload_nN 2 d_S_give_9 rfl rfl ?_
  refine r_ifnonnullN d_S_give_10 ?_
  refine r_iconst (-1) d_S_give_13 rfl ?_
  refine r_iret .int d_S_give_14 rfl rfl ?_
  exact ⟨rfl, rfl⟩
set_option maxHeartbeats 400000 in
theorem c_S_give {m j n : Nat} (hm : m ≤ 4) (hj : j < m) (hn : n ≤ 12) (μ : Me) (hct : μ.1 1 1 = nI m) (hln : μ.1 4 3 = nI n) (hR : RtOk μ m) (hL : LsOk (μ.1 5) (μ.1 6) n) : CtI m_S_give 5 [.ref 0, .int (nI j)] μ (nI (gvF m (8 + 4 * j) (μ.1 5) (μ.1 6) (μ.1 7) μ n).2) (gvF m (8 + 4 * j) (μ.1 5) (μ.1 6) (μ.1 7) μ n).1 := by
  refine Ct.of (ls := [.ref 0, .int (nI j), flr, flr, flr, flr]) rfl (Nat.le_of_ble_eq_true rfl) rfl (fun X => ?_)
  have hLj := isL_s j (show j < 4 by omega)
  obtain ⟨s9, s0, s1, s2, s3⟩ := id hLj
  refine r_aload_n 0 d_S_give_0 rfl rfl ?_
  refine r_getR fl_S_12 (by first | with_reducible assumption | rfl) rfl d_S_give_1 ?_
  refine r_iload_n 1 d_S_give_4 rfl rfl ?_
  refine r_callVa (c_School_learnerAt_yes j m hj hm _ hct) lk_S_127 (by first | with_reducible assumption | rfl) d_S_give_5 rfl rfl (Nat.le_of_ble_eq_true rfl) (by decide) ?_
  refine r_astore_n 2 [_, _, _, _, _, _] d_S_give_8 rfl (by decide) rfl ?_
  refine r_aload_n 2 d_S_give_9 rfl rfl ?_
  refine r_ifnonnull d_S_give_10 ?_
  refine r_iconst 0 d_S_give_15 rfl ?_
  refine r_istore_n 3 [_, _, _, _, _, _] d_S_give_16 rfl (by decide) rfl ?_
  refine r_iconst 0 d_S_give_17 rfl ?_
  refine r_istore 4 [_, _, _, _, _, _] d_S_give_18 (by decide) rfl ?_
  have lp := lpN n (fun i (w : Me × Nat) => ∀ z1 : Value, Wa X m_S_give 5 20 [.ref 0, .int (nI j), .ref (8 + 4 * j), .int (nI w.2), .int (nI i), z1] [] w.1 (fun r μ' => r = some (.int (nI (gvF m (8 + 4 * j) (μ.1 5) (μ.1 6) (μ.1 7) μ n).2)) ∧ μ' = (gvF m (8 + 4 * j) (μ.1 5) (μ.1 6) (μ.1 7) μ n).1)) (fun i w => w = gvF m (8 + 4 * j) (μ.1 5) (μ.1 6) (μ.1 7) μ i) ?_ 0 (μ, 0) (Nat.zero_le _) rfl
  · exact lp _
  · intro i w hi hw hk z1
    obtain ⟨ν, cnt⟩ := w
    have q4 : ν.1 4 = μ.1 4 := by rw [show ν = (gvF m (8 + 4 * j) (μ.1 5) (μ.1 6) (μ.1 7) μ i).1 by rw [← hw]]; exact gv_lo (by decide) (by decide) i
    have q5 : ν.1 5 = μ.1 5 := by rw [show ν = (gvF m (8 + 4 * j) (μ.1 5) (μ.1 6) (μ.1 7) μ i).1 by rw [← hw]]; exact gv_lo (by decide) (by decide) i
    have q6 : ν.1 6 = μ.1 6 := by rw [show ν = (gvF m (8 + 4 * j) (μ.1 5) (μ.1 6) (μ.1 7) μ i).1 by rw [← hw]]; exact gv_lo (by decide) (by decide) i
    have q7 : ν.1 7 = μ.1 7 := by rw [show ν = (gvF m (8 + 4 * j) (μ.1 5) (μ.1 6) (μ.1 7) μ i).1 by rw [← hw]]; exact gv_lo (by decide) (by decide) i
    have q1 : ν.1 1 1 = nI m := by rw [show ν = (gvF m (8 + 4 * j) (μ.1 5) (μ.1 6) (μ.1 7) μ i).1 by rw [← hw], gv_11, hct]
    have qR : RtOk ν m := by rw [show ν = (gvF m (8 + 4 * j) (μ.1 5) (μ.1 6) (μ.1 7) μ i).1 by rw [← hw]]; exact gv_rt hj hm hR hL i hi
    have qn : i < n → (ν, cnt) = gvF m (8 + 4 * j) (μ.1 5) (μ.1 6) (μ.1 7) μ i → True := fun _ _ => trivial
    have hnx : gvF m (8 + 4 * j) (μ.1 5) (μ.1 6) (μ.1 7) μ (i + 1) = (gstep m (8 + 4 * j) ν (μ.1 5 i) (μ.1 6 i) (μ.1 7 i), if μ.1 5 i = 0 ∧ prodB (cF ν (8 + 4 * j) (μ.1 7 i) (μ.1 6 i).toNatClampNeg) = true then cnt + 1 else cnt) := by rw [gvF, ← hw]
    dsimp only
    refine r_iload 4 d_S_give_20 rfl ?_
    refine r_aload_n 0 d_S_give_22 rfl rfl ?_
    refine r_getR fl_S_12 (by first | with_reducible assumption | rfl) rfl d_S_give_23 ?_
    refine r_getR fl_S_108 (by first | with_reducible assumption | rfl) rfl d_S_give_26 ?_
    refine r_getI fl_S_115 (by first | with_reducible assumption | rfl) rfl d_S_give_29 ?_
    refine r_icmp_ge d_S_give_32 (fun h32 => ?_) (fun h32 => ?_)
    · refine r_iload_n 3 d_S_give_175 rfl rfl ?_
      refine r_iret .int d_S_give_176 rfl rfl ?_
      have hge := n_le h32 (by rw [q4, hln]) rfl (by omega) (by omega)
      obtain rfl : i = n := by omega
      exact ⟨by rw [← hw], by rw [← hw]⟩
    · have hl : i < n := n_lt h32 (by rw [q4, hln]) rfl (by omega) (by omega)
      refine r_aload_n 0 d_S_give_35 rfl rfl ?_
      refine r_getR fl_S_12 (by first | with_reducible assumption | rfl) rfl d_S_give_36 ?_
      refine r_getR fl_S_108 (by first | with_reducible assumption | rfl) rfl d_S_give_39 ?_
      refine r_getR fl_S_278 (by first | with_reducible assumption | rfl) rfl d_S_give_42 ?_
      refine r_iload 4 d_S_give_45 rfl ?_
      skip
      refine r_ialdN (by first | with_reducible assumption | rfl) (by first | with_reducible assumption | omega | decide | assumption) d_S_give_47 ?_
      rw [q6]
      refine r_istore 5 [_, _, _, _, _, _] d_S_give_48 (by decide) rfl ?_
      refine r_aload_n 0 d_S_give_50 rfl rfl ?_
      refine r_getR fl_S_12 (by first | with_reducible assumption | rfl) rfl d_S_give_51 ?_
      refine r_getR fl_S_108 (by first | with_reducible assumption | rfl) rfl d_S_give_54 ?_
      refine r_getR fl_S_281 (by first | with_reducible assumption | rfl) rfl d_S_give_57 ?_
      refine r_iload 4 d_S_give_60 rfl ?_
      refine r_ialdN (by first | with_reducible assumption | rfl) (by first | with_reducible assumption | omega | decide | assumption) d_S_give_62 ?_
      rw [q5]
      rcases hL i hl with ⟨hso, zp, zhp, hab⟩ | ⟨hso, zp, zhp, hab⟩ | ⟨hso, zp, zhp, hab⟩
      · rw [hab, hso]
        have hcp := cl36 zhp (show 36 ≤ 1000 by decide)
        refine r_ls d_S_give_63 (List.forall_mem_cons.mpr ⟨fun h63 => ?_, List.forall_mem_cons.mpr ⟨fun h63 => ?_, fun _ h => absurd h List.not_mem_nil⟩⟩) (fun h63 => ?_)
        · refine r_aload_n 0 d_S_give_88 rfl rfl ?_
          refine r_getR fl_S_47 (by first | with_reducible assumption | rfl) rfl d_S_give_89 ?_
          refine r_aload_n 2 d_S_give_92 rfl rfl ?_
          refine r_iload 5 d_S_give_93 rfl ?_
          refine r_aload_n 0 d_S_give_95 rfl rfl ?_
          refine r_getR fl_S_12 (by first | with_reducible assumption | rfl) rfl d_S_give_96 ?_
          refine r_getR fl_S_108 (by first | with_reducible assumption | rfl) rfl d_S_give_99 ?_
          refine r_getR fl_S_284 (by first | with_reducible assumption | rfl) rfl d_S_give_102 ?_
          refine r_iload 4 d_S_give_105 rfl ?_
          refine r_ialdN (by first | with_reducible assumption | rfl) (by first | with_reducible assumption | omega | decide | assumption) d_S_give_107 ?_
          rw [q7]
          refine r_aload_n 0 d_S_give_108 rfl rfl ?_
          refine r_getR fl_S_12 (by first | with_reducible assumption | rfl) rfl d_S_give_109 ?_
          refine r_getR fl_S_184 (by first | with_reducible assumption | rfl) rfl d_S_give_112 ?_
          refine r_callVv (c_Answer_find hLj zhp rfl _ _) lk_S_196 (by first | with_reducible assumption | rfl) d_S_give_115 rfl rfl (Nat.le_of_ble_eq_true rfl) (by decide) ?_
          show Wa X _ _ _ _ _ (ansM ν (cF ν (8 + 4 * j) (μ.1 7 i) zp)) _
          refine r_aload_n 2 d_S_give_118 rfl rfl ?_
          refine r_aload_n 0 d_S_give_119 rfl rfl ?_
          refine r_getR fl_S_47 (by first | with_reducible assumption | rfl) rfl d_S_give_120 ?_
          refine r_iload 5 d_S_give_123 rfl ?_
          refine r_aload_n 0 d_S_give_125 rfl rfl ?_
          refine r_getR fl_S_12 (by first | with_reducible assumption | rfl) rfl d_S_give_126 ?_
          refine r_getI fl_S_187 (by first | with_reducible assumption | rfl) rfl d_S_give_129 ?_
          rw [ansM_ne (show (1 : Nat) ≠ 57 by decide)]
          refine r_callVv (keep_ct hLj zhp _ _ _ _ _ _ _ _) lk_S_212 (by first | with_reducible assumption | rfl) d_S_give_132 rfl rfl (Nat.le_of_ble_eq_true rfl) (by decide) ?_
          refine r_aload_n 0 d_S_give_135 rfl rfl ?_
          refine r_getR fl_S_47 (by first | with_reducible assumption | rfl) rfl d_S_give_136 ?_
          refine r_callVi (c_Answer_isProduct _) lk_S_286 (by first | with_reducible assumption | rfl) d_S_give_139 rfl rfl (Nat.le_of_ble_eq_true rfl) (by decide) ?_
          rw [keepM, r3_ne (by omega) (by omega) (by omega), ansM_1]
          refine r_if_eq d_S_give_142 (fun h142 => ?_) (fun h142 => ?_)
          · first | refine r_iincN 4 [_, _, _, _, _, _] d_S_give_169 (by decide) rfl rfl ?_ | refine r_iinc 4 [_, _, _, _, _, _] (1) d_S_give_169 (by decide) (by decide) rfl rfl ?_
            refine r_goto d_S_give_172 ?_
            refine hk (_, _) hl ?_ _
            rw [hnx, gstep, if_pos hso, hab, hcp]
            refine Prod.ext_iff.mpr ⟨rfl, ?_⟩
            first
              | exact (if_neg (fun z => bz_np h142 (of_decide_eq_true z.2))).symm
              | exact (if_pos ⟨hso, decide_eq_true (bz_p h142)⟩).symm
          · first | refine r_iincN 3 [_, _, _, _, _, _] d_S_give_145 (by decide) rfl rfl ?_ | refine r_iinc 3 [_, _, _, _, _, _] (1) d_S_give_145 (by decide) (by decide) rfl rfl ?_
            refine r_goto d_S_give_148 ?_
            first | refine r_iincN 4 [_, _, _, _, _, _] d_S_give_169 (by decide) rfl rfl ?_ | refine r_iinc 4 [_, _, _, _, _, _] (1) d_S_give_169 (by decide) (by decide) rfl rfl ?_
            refine r_goto d_S_give_172 ?_
            refine hk (_, _) hl ?_ _
            rw [hnx, gstep, if_pos hso, hab, hcp]
            refine Prod.ext_iff.mpr ⟨rfl, ?_⟩
            first
              | exact (if_neg (fun z => bz_np h142 (of_decide_eq_true z.2))).symm
              | exact (if_pos ⟨hso, decide_eq_true (bz_p h142)⟩).symm
        · exact absurd h63 (by decide)
        · exact absurd rfl (h63 (0, 88) (by simp))
      · rw [hab, hso]
        have hcp := cl36 zhp (show 36 ≤ 1000 by decide)
        refine r_ls d_S_give_63 (List.forall_mem_cons.mpr ⟨fun h63 => ?_, List.forall_mem_cons.mpr ⟨fun h63 => ?_, fun _ h => absurd h List.not_mem_nil⟩⟩) (fun h63 => ?_)
        · exact absurd h63 (by decide)
        · refine r_aload_n 2 d_S_give_151 rfl rfl ?_
          refine r_iload 5 d_S_give_152 rfl ?_
          refine r_callVv (c_Learner_hear hLj zhp _) lk_S_216 (by first | with_reducible assumption | rfl) d_S_give_154 rfl rfl (Nat.le_of_ble_eq_true rfl) (by decide) ?_
          refine r_goto d_S_give_157 ?_
          first | refine r_iincN 4 [_, _, _, _, _, _] d_S_give_169 (by decide) rfl rfl ?_ | refine r_iinc 4 [_, _, _, _, _, _] (1) d_S_give_169 (by decide) (by decide) rfl rfl ?_
          refine r_goto d_S_give_172 ?_
          refine hk (_, _) hl ?_ _
          rw [hnx, gstep, if_neg (by rw [hso]; decide), if_pos hso, hab, hcp, if_neg (fun z => absurd z.1 (by rw [hso]; decide))]
          rfl
        · exact absurd rfl (h63 (1, 151) (by simp))
      · rw [hab, hso]
        have hcp := cl36 (show zp < 10 by omega) (show 10 ≤ 1000 by decide)
        refine r_ls d_S_give_63 (List.forall_mem_cons.mpr ⟨fun h63 => ?_, List.forall_mem_cons.mpr ⟨fun h63 => ?_, fun _ h => absurd h List.not_mem_nil⟩⟩) (fun h63 => ?_)
        · exact absurd h63 (by decide)
        · exact absurd h63 (by decide)
        · refine r_aload_n 0 d_S_give_160 rfl rfl ?_
          refine r_getR fl_S_12 (by first | with_reducible assumption | rfl) rfl d_S_give_161 ?_
          refine r_iload 5 d_S_give_164 rfl ?_
          refine r_callVv (c_School_rest hm zp (by omega) _ q1 qR.ne) lk_S_220 (by first | with_reducible assumption | rfl) d_S_give_166 rfl rfl (Nat.le_of_ble_eq_true rfl) (by decide) ?_
          first | refine r_iincN 4 [_, _, _, _, _, _] d_S_give_169 (by decide) rfl rfl ?_ | refine r_iinc 4 [_, _, _, _, _, _] (1) d_S_give_169 (by decide) (by decide) rfl rfl ?_
          refine r_goto d_S_give_172 ?_
          refine hk (_, _) hl ?_ _
          rw [hnx, gstep, if_neg (by rw [hso]; decide), if_neg (by rw [hso]; decide), hab, hcp, if_neg (fun z => absurd z.1 (by rw [hso]; decide))]
          rfl
