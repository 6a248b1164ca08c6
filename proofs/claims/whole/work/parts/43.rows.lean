/-! ROWS of THE LESSON for a LEARNER -/
def rowM (rc : Nat) (ν : Me) (k : Nat) (a b e : Int32) : Me := uI (uI (uI (uI ν (rc + 1) (3 * k) a) (rc + 1) (3 * k + 1) b) (rc + 1) (3 * k + 2) e) rc 1 (nI (k + 1))
def fstep (rc : Nat) (w : Me × Int32 × Nat) (so ab se : Int32) : Me × Int32 × Nat :=
  if so = 0 then (rowM rc (keepM (ansM w.1 (cF w.1 53 se ab.toNatClampNeg)) 53 ab.toNatClampNeg w.2.1 (cF w.1 53 se ab.toNatClampNeg)) w.2.2 ab (cF w.1 53 se ab.toNatClampNeg).1 (cF w.1 53 se ab.toNatClampNeg).2.2.1, w.2.1, w.2.2 + 1)
  else if so = 1 then (uI w.1 (53 + 1) ab.toNatClampNeg (toldS (w.1.1 (53 + 1) ab.toNatClampNeg)), w.2.1, w.2.2)
  else (rI w.1 (53 + 1) (sleepF (w.1.1 3 0) ab.toNatClampNeg (w.1.1 (53 + 1)) (w.1.1 (53 + 2))), w.2.1 + ab, w.2.2)
def fF (rc : Nat) (so ab se : Nat → Int32) (w0 : Me × Int32 × Nat) : Nat → Me × Int32 × Nat
  | 0 => w0
  | i + 1 => fstep rc (fF rc so ab se w0 i) (so i) (ab i) (se i)
def isRc (rc : Nat) : Prop := rc = 62 ∨ rc = 64
theorem rowM_ne {rc c' k : Nat} {ν : Me} {a b e : Int32} (h : c' ≠ rc) (h2 : c' ≠ rc + 1) : (rowM rc ν k a b e).1 c' = ν.1 c' := by rw [rowM, uI_ne h, uI_ne h2, uI_ne h2, uI_ne h2]
theorem fstep_lo {rc : Nat} (hr : isRc rc) (w : Me × Int32 × Nat) (so ab se : Int32) {c' : Nat} (h2 : c' < 53) : (fstep rc w so ab se).1.1 c' = w.1.1 c' := by
  have hr' : 62 ≤ rc := by rcases hr with rfl | rfl <;> decide
  unfold fstep
  split
  · simp only
    rw [rowM_ne (by omega) (by omega), keepM, r3_ne (by omega) (by omega) (by omega), ansM_ne (by omega)]
  · split
    · simp only
      rw [uI_ne (by omega)]
    · simp only
      rw [rI_ne (by omega)]
theorem f_lo {rc : Nat} (hr : isRc rc) {so ab se : Nat → Int32} {w0 : Me × Int32 × Nat} {c' : Nat} (h2 : c' < 53) : ∀ i, (fF rc so ab se w0 i).1.1 c' = w0.1.1 c'
  | 0 => rfl
  | i + 1 => by rw [fF, fstep_lo hr _ _ _ _ h2, f_lo hr h2 i]
/-- what holds between the ITEMS -/
def fInv (rc : Nat) (w : Me × Int32 × Nat) : Prop := w.1.1 rc 1 = nI w.2.2 ∧ ∀ p, p < 36 → ∃ r, r ≤ 9 ∧ w.1.1 (53 + 2) p = nI r
theorem fstep_inv {rc : Nat} (hr : isRc rc) {w : Me × Int32 × Nat} (h : fInv rc w) (so ab se : Int32) (hab : so = 0 → ab.toNatClampNeg < 36) : fInv rc (fstep rc w so ab se) := by
  have hr' : 62 ≤ rc := by rcases hr with rfl | rfl <;> decide
  unfold fstep
  split
  · rename_i h0
    refine ⟨by simp only; rw [rowM, uI_at], fun p hp => ?_⟩
    simp only
    rw [rowM_ne (by omega) (by omega), keepM, r3_2, ansM_ne (by omega), ansM_ne (by omega)]
    exact keepR_ok h.2 (hab h0) p hp
  · split
    · refine ⟨by simp only; rw [uI_ne (by omega)]; exact h.1, fun p hp => ?_⟩
      simp only
      rw [uI_ne (by omega)]
      exact h.2 p hp
    · refine ⟨by simp only; rw [rI_ne (by omega)]; exact h.1, fun p hp => ?_⟩
      simp only
      rw [rI_ne (by omega)]
      exact h.2 p hp
theorem f_inv {rc n : Nat} (hr : isRc rc) {so ab se : Nat → Int32} {w0 : Me × Int32 × Nat} (h : fInv rc w0) (hL : LsOk so ab n) : ∀ i, i ≤ n → fInv rc (fF rc so ab se w0 i)
  | 0, _ => h
  | i + 1, hi => by
    rw [fF]
    refine fstep_inv hr (f_inv hr h hL i (by omega)) _ _ _ (fun z => ?_)
    rcases hL i (by omega) with ⟨-, p, hp, e⟩ | ⟨z', -⟩ | ⟨z', -⟩
    · rw [e, cl36 hp (by decide)]; exact hp
    · rw [z] at z'; exact absurd z' (by decide)
    · rw [z] at z'; exact absurd z' (by decide)
theorem f_cnt {rc : Nat} {so ab se : Nat → Int32} {w0 : Me × Int32 × Nat} (h0 : w0.2.2 = 0) : ∀ i, (fF rc so ab se w0 i).2.2 ≤ i
  | 0 => by rw [fF, h0]; exact Nat.le_refl _
  | i + 1 => by
    have := f_cnt (rc := rc) (so := so) (ab := ab) (se := se) h0 i
    rw [fF]
    unfold fstep
    split
    · simp only; omega
    · split <;> (simp only; omega)
def fill0 (rc c : Nat) (μ : Me) : Me × Int32 × Nat := (uI (spareM μ c) rc 1 0, μ.1 1 3, 0)
def fillM (rc c n : Nat) (μ : Me) : Me × Int32 × Nat := fF rc (μ.1 5) (μ.1 6) (μ.1 7) (fill0 rc c μ) n
theorem spare_lo {μ : Me} {c c' : Nat} (h : c' < 53 ∨ 57 ≤ c') : (spareM μ c).1 c' = μ.1 c' := by rw [spareM, r3_ne (by omega) (by omega) (by omega), uI_ne (by omega), uI_ne (by omega)]
theorem fill0_inv {rc m j : Nat} (hr : isRc rc) (hj : j < m) {μ : Me} (hR : RtOk μ m) : fInv rc (fill0 rc (8 + 4 * j) μ) := by
  have hr' : 62 ≤ rc := by rcases hr with rfl | rfl <;> decide
  refine ⟨by rw [fill0]; simp only; rw [uI_at]; rfl, fun p hp => ?_⟩
  rw [fill0]
  simp only
  rw [uI_ne (by omega), spare_55, cut, if_pos hp]
  exact hR j hj p hp
-- WALKS
set_option maxHeartbeats 400000 in
theorem c_S_fillRows_62 {m j n : Nat} (hm : m ≤ 4) (hj : j < m) (hn : n ≤ 12) (μ : Me) (hln : μ.1 4 3 = nI n) (hR : RtOk μ m) (hL : LsOk (μ.1 5) (μ.1 6) n) : CtV m_S_fillRows 5 [.ref 0, .ref 62, .ref (8 + 4 * j)] μ (fillM 62 (8 + 4 * j) n μ).1 := by
  refine Ct.of (ls := [.ref 0, .ref 62, .ref (8 + 4 * j), flr, flr, flr, flr]) rfl (Nat.le_of_ble_eq_true rfl) rfl (fun X => ?_)
  have hLj := isL_s j (show j < 4 by omega)
  obtain ⟨s9, s0, s1, s2, s3⟩ := id hLj
  have hrc : isRc 62 := by unfold isRc; decide
  refine r_aload_n 0 d_S_fillRows_0 rfl rfl ?_
  refine r_getR fl_S_40 (by first | with_reducible assumption | rfl) rfl d_S_fillRows_1 ?_
  refine r_astore_n 3 [_, _, _, _, _, _, _] d_S_fillRows_4 rfl (by decide) rfl ?_
  refine r_aload_n 3 d_S_fillRows_5 rfl rfl ?_
  refine r_aload_n 2 d_S_fillRows_6 rfl rfl ?_
  refine r_callVv (c_Learner_copyFrom isL_53 hLj (Or.inr (by omega)) _) lk_S_227 (by first | with_reducible assumption | rfl) d_S_fillRows_7 rfl rfl (Nat.le_of_ble_eq_true rfl) (by decide) ?_
  show Wa X _ _ _ _ _ (spareM μ (8 + 4 * j)) _
  refine r_aload_n 0 d_S_fillRows_10 rfl rfl ?_
  refine r_getR fl_S_12 (by first | with_reducible assumption | rfl) rfl d_S_fillRows_11 ?_
  refine r_getI fl_S_187 (by first | with_reducible assumption | rfl) rfl d_S_fillRows_14 ?_
  rw [spare_lo (Or.inl (by decide))]
  refine r_istore 4 [_, _, _, _, _, _, _] d_S_fillRows_17 (by decide) rfl ?_
  refine r_aload_n 1 d_S_fillRows_19 rfl rfl ?_
  refine r_iconst 0 d_S_fillRows_20 rfl ?_
  refine r_putI fp_S_302 (by first | with_reducible assumption | rfl) rfl d_S_fillRows_21 ?_
  refine r_iconst 0 d_S_fillRows_24 rfl ?_
  refine r_istore 5 [_, _, _, _, _, _, _] d_S_fillRows_25 (by decide) rfl ?_
  have lp := lpN n (fun i (w : Me × Int32 × Nat) => ∀ z1 : Value, Wa X m_S_fillRows 5 27 [.ref 0, .ref 62, .ref (8 + 4 * j), .ref 53, .int w.2.1, .int (nI i), z1] [] w.1 (fun r μ' => r = none ∧ μ' = (fillM 62 (8 + 4 * j) n μ).1)) (fun i w => w = fillM 62 (8 + 4 * j) i μ) ?_ 0 (fill0 62 (8 + 4 * j) μ) (Nat.zero_le _) rfl
  · exact lp _
  · intro i w hi hw hk z1
    have lo : ∀ c', c' < 53 → w.1.1 c' = μ.1 c' := fun c' hc' => by rw [hw, fillM, f_lo hrc hc', fill0]; simp only; rw [uI_ne (by omega), spare_lo (Or.inl hc')]
    have q4 : w.1.1 4 = μ.1 4 := lo 4 (by decide)
    have q5 : w.1.1 5 = μ.1 5 := lo 5 (by decide)
    have q6 : w.1.1 6 = μ.1 6 := lo 6 (by decide)
    have q7 : w.1.1 7 = μ.1 7 := lo 7 (by decide)
    have hinv : fInv 62 w := by rw [hw]; exact f_inv hrc (fill0_inv hrc hj hR) hL i hi
    have hk12 : w.2.2 ≤ i := by rw [hw]; exact f_cnt rfl i
    have hnx : fillM 62 (8 + 4 * j) (i + 1) μ = fstep 62 w (μ.1 5 i) (μ.1 6 i) (μ.1 7 i) := by rw [hw]; rfl
    refine r_iload 5 d_S_fillRows_27 rfl ?_
    refine r_aload_n 0 d_S_fillRows_29 rfl rfl ?_
    refine r_getR fl_S_12 (by first | with_reducible assumption | rfl) rfl d_S_fillRows_30 ?_
    refine r_getR fl_S_108 (by first | with_reducible assumption | rfl) rfl d_S_fillRows_33 ?_
    refine r_getI fl_S_115 (by first | with_reducible assumption | rfl) rfl d_S_fillRows_36 ?_
    refine r_icmp_ge d_S_fillRows_39 (fun h39 => ?_) (fun h39 => ?_)
    · refine r_ret d_S_fillRows_198 rfl ?_
      have hge := n_le h39 (by rw [q4, hln]) rfl (by omega) (by omega)
      obtain rfl : i = n := by omega
      exact ⟨rfl, by rw [hw]⟩
    · have hl : i < n := n_lt h39 (by rw [q4, hln]) rfl (by omega) (by omega)
      refine r_aload_n 0 d_S_fillRows_42 rfl rfl ?_
      refine r_getR fl_S_12 (by first | with_reducible assumption | rfl) rfl d_S_fillRows_43 ?_
      refine r_getR fl_S_108 (by first | with_reducible assumption | rfl) rfl d_S_fillRows_46 ?_
      refine r_getR fl_S_278 (by first | with_reducible assumption | rfl) rfl d_S_fillRows_49 ?_
      refine r_iload 5 d_S_fillRows_52 rfl ?_
      refine r_ialdN (by first | with_reducible assumption | rfl) (by first | with_reducible assumption | omega | decide | assumption) d_S_fillRows_54 ?_
      rw [q6]
      refine r_istore 6 [_, _, _, _, _, _, _] d_S_fillRows_55 (by decide) rfl ?_
      refine r_aload_n 0 d_S_fillRows_57 rfl rfl ?_
      refine r_getR fl_S_12 (by first | with_reducible assumption | rfl) rfl d_S_fillRows_58 ?_
      refine r_getR fl_S_108 (by first | with_reducible assumption | rfl) rfl d_S_fillRows_61 ?_
      refine r_getR fl_S_281 (by first | with_reducible assumption | rfl) rfl d_S_fillRows_64 ?_
      refine r_iload 5 d_S_fillRows_67 rfl ?_
      refine r_ialdN (by first | with_reducible assumption | rfl) (by first | with_reducible assumption | omega | decide | assumption) d_S_fillRows_69 ?_
      rw [q5]
      rcases hL i hl with ⟨hso, zp, zhp, hab⟩ | ⟨hso, zp, zhp, hab⟩ | ⟨hso, zp, zhp, hab⟩
      · rw [hab, hso]
        have hcp := cl36 zhp (show 36 ≤ 1000 by decide)
        refine r_ls d_S_fillRows_70 (List.forall_mem_cons.mpr ⟨fun h70 => ?_, List.forall_mem_cons.mpr ⟨fun h70 => ?_, fun _ h => absurd h List.not_mem_nil⟩⟩) (fun h70 => ?_)
        · refine r_aload_n 0 d_S_fillRows_96 rfl rfl ?_
          refine r_getR fl_S_47 (by first | with_reducible assumption | rfl) rfl d_S_fillRows_97 ?_
          refine r_aload_n 3 d_S_fillRows_100 rfl rfl ?_
          refine r_iload 6 d_S_fillRows_101 rfl ?_
          refine r_aload_n 0 d_S_fillRows_103 rfl rfl ?_
          refine r_getR fl_S_12 (by first | with_reducible assumption | rfl) rfl d_S_fillRows_104 ?_
          refine r_getR fl_S_108 (by first | with_reducible assumption | rfl) rfl d_S_fillRows_107 ?_
          refine r_getR fl_S_284 (by first | with_reducible assumption | rfl) rfl d_S_fillRows_110 ?_
          refine r_iload 5 d_S_fillRows_113 rfl ?_
          refine r_ialdN (by first | with_reducible assumption | rfl) (by first | with_reducible assumption | omega | decide | assumption) d_S_fillRows_115 ?_
          rw [q7]
          refine r_aload_n 0 d_S_fillRows_116 rfl rfl ?_
          refine r_getR fl_S_12 (by first | with_reducible assumption | rfl) rfl d_S_fillRows_117 ?_
          refine r_getR fl_S_184 (by first | with_reducible assumption | rfl) rfl d_S_fillRows_120 ?_
          refine r_callVv (c_Answer_find isL_53 zhp rfl _ _) lk_S_196 (by first | with_reducible assumption | rfl) d_S_fillRows_123 rfl rfl (Nat.le_of_ble_eq_true rfl) (by decide) ?_
          show Wa X _ _ _ _ _ (ansM w.1 (cF w.1 53 (μ.1 7 i) zp)) _
          refine r_aload_n 3 d_S_fillRows_126 rfl rfl ?_
          refine r_aload_n 0 d_S_fillRows_127 rfl rfl ?_
          refine r_getR fl_S_47 (by first | with_reducible assumption | rfl) rfl d_S_fillRows_128 ?_
          refine r_iload 6 d_S_fillRows_131 rfl ?_
          refine r_iload 4 d_S_fillRows_133 rfl ?_
          refine r_callVv (keep_ct isL_53 zhp _ _ _ _ _ _ _ _) lk_S_212 (by first | with_reducible assumption | rfl) d_S_fillRows_135 rfl rfl (Nat.le_of_ble_eq_true rfl) (by decide) ?_
          show Wa X _ _ _ _ _ (keepM (ansM w.1 (cF w.1 53 (μ.1 7 i) zp)) 53 zp w.2.1 (cF w.1 53 (μ.1 7 i) zp)) _
          have ka : (keepM (ansM w.1 (cF w.1 53 (μ.1 7 i) zp)) 53 zp w.2.1 (cF w.1 53 (μ.1 7 i) zp)).1 57 = (ansM w.1 (cF w.1 53 (μ.1 7 i) zp)).1 57 := by rw [keepM, r3_ne (by decide) (by decide) (by decide)]
          have kr : (keepM (ansM w.1 (cF w.1 53 (μ.1 7 i) zp)) 53 zp w.2.1 (cF w.1 53 (μ.1 7 i) zp)).1 62 1 = nI w.2.2 := by rw [keepM, r3_ne (by decide) (by decide) (by decide), ansM_ne (by decide)]; exact hinv.1
          refine r_aload_n 1 d_S_fillRows_138 rfl rfl ?_
          refine r_iload 6 d_S_fillRows_139 rfl ?_
          refine r_aload_n 0 d_S_fillRows_141 rfl rfl ?_
          refine r_getR fl_S_47 (by first | with_reducible assumption | rfl) rfl d_S_fillRows_142 ?_
          refine r_getI fl_S_200 (by first | with_reducible assumption | rfl) rfl d_S_fillRows_145 ?_
          refine r_aload_n 0 d_S_fillRows_148 rfl rfl ?_
          refine r_getR fl_S_47 (by first | with_reducible assumption | rfl) rfl d_S_fillRows_149 ?_
          refine r_getI fl_S_206 (by first | with_reducible assumption | rfl) rfl d_S_fillRows_152 ?_
          rw [ka, ansM_0, ansM_2]
          refine r_callVv (c_Rows_append isRw_62 (show w.2.2 ≤ 12 by omega) _ _ _ _ kr) lk_S_395 (by first | with_reducible assumption | rfl) d_S_fillRows_155 rfl rfl (Nat.le_of_ble_eq_true rfl) (by decide) ?_
          rw [if_pos (show w.2.2 < 12 by omega)]
          refine r_goto d_S_fillRows_158 ?_
          first | refine r_iincN 5 [_, _, _, _, _, _, _] d_S_fillRows_192 (by decide) rfl rfl ?_ | refine r_iinc 5 [_, _, _, _, _, _, _] (1) d_S_fillRows_192 (by decide) (by decide) rfl rfl ?_
          refine r_goto d_S_fillRows_195 ?_
          refine hk (_, _, w.2.2 + 1) hl ?_ _
          rw [hnx, fstep, if_pos hso, hab, hcp]
          rfl
        · exact absurd h70 (by decide)
        · exact absurd rfl (h70 (0, 96) (by simp))
      · rw [hab, hso]
        have hcp := cl36 zhp (show 36 ≤ 1000 by decide)
        refine r_ls d_S_fillRows_70 (List.forall_mem_cons.mpr ⟨fun h70 => ?_, List.forall_mem_cons.mpr ⟨fun h70 => ?_, fun _ h => absurd h List.not_mem_nil⟩⟩) (fun h70 => ?_)
        · exact absurd h70 (by decide)
        · refine r_aload_n 3 d_S_fillRows_161 rfl rfl ?_
          refine r_iload 6 d_S_fillRows_162 rfl ?_
          refine r_callVv (c_Learner_hear isL_53 zhp _) lk_S_216 (by first | with_reducible assumption | rfl) d_S_fillRows_164 rfl rfl (Nat.le_of_ble_eq_true rfl) (by decide) ?_
          refine r_goto d_S_fillRows_167 ?_
          first | refine r_iincN 5 [_, _, _, _, _, _, _] d_S_fillRows_192 (by decide) rfl rfl ?_ | refine r_iinc 5 [_, _, _, _, _, _, _] (1) d_S_fillRows_192 (by decide) (by decide) rfl rfl ?_
          refine r_goto d_S_fillRows_195 ?_
          refine hk (_, _, w.2.2) hl ?_ _
          rw [hnx, fstep, if_neg (by rw [hso]; decide), if_pos hso, hab, hcp]
          rfl
        · exact absurd rfl (h70 (1, 161) (by simp))
      · rw [hab, hso]
        have hcp := cl36 (show zp < 10 by omega) (show 10 ≤ 1000 by decide)
        refine r_ls d_S_fillRows_70 (List.forall_mem_cons.mpr ⟨fun h70 => ?_, List.forall_mem_cons.mpr ⟨fun h70 => ?_, fun _ h => absurd h List.not_mem_nil⟩⟩) (fun h70 => ?_)
        · exact absurd h70 (by decide)
        · exact absurd h70 (by decide)
        · refine r_aload_n 3 d_S_fillRows_170 rfl rfl ?_
          refine r_iload 6 d_S_fillRows_171 rfl ?_
          refine r_aload_n 0 d_S_fillRows_173 rfl rfl ?_
          refine r_getR fl_S_12 (by first | with_reducible assumption | rfl) rfl d_S_fillRows_174 ?_
          refine r_getR fl_S_184 (by first | with_reducible assumption | rfl) rfl d_S_fillRows_177 ?_
          refine r_iconst 0 d_S_fillRows_180 rfl ?_
          refine r_ialdN (j := 0) (by first | with_reducible assumption | rfl) (by first | with_reducible assumption | omega | decide | assumption) d_S_fillRows_181 ?_
          refine r_callVv (c_Learner_sleep isL_53 zp (by omega) _ _ (fun p hp => by obtain ⟨r, hr, e⟩ := hinv.2 p hp; rw [e]; exact r100 r hr)) lk_S_230 (by first | with_reducible assumption | rfl) d_S_fillRows_182 rfl rfl (Nat.le_of_ble_eq_true rfl) (by decide) ?_
          refine r_iload 4 d_S_fillRows_185 rfl ?_
          refine r_iload 6 d_S_fillRows_187 rfl ?_
          refine r_iadd d_S_fillRows_189 ?_
          refine r_istore 4 [_, _, _, _, _, _, _] d_S_fillRows_190 (by decide) rfl ?_
          first | refine r_iincN 5 [_, _, _, _, _, _, _] d_S_fillRows_192 (by decide) rfl rfl ?_ | refine r_iinc 5 [_, _, _, _, _, _, _] (1) d_S_fillRows_192 (by decide) (by decide) rfl rfl ?_
          refine r_goto d_S_fillRows_195 ?_
          refine hk (_, _, w.2.2) hl ?_ _
          rw [hnx, fstep, if_neg (by rw [hso]; decide), if_neg (by rw [hso]; decide), hab, hcp]
          rfl
set_option maxHeartbeats 400000 in
theorem c_S_fillRows_64 {m j n : Nat} (hm : m ≤ 4) (hj : j < m) (hn : n ≤ 12) (μ : Me) (hln : μ.1 4 3 = nI n) (hR : RtOk μ m) (hL : LsOk (μ.1 5) (μ.1 6) n) : CtV m_S_fillRows 5 [.ref 0, .ref 64, .ref (8 + 4 * j)] μ (fillM 64 (8 + 4 * j) n μ).1 := by
  refine Ct.of (ls := [.ref 0, .ref 64, .ref (8 + 4 * j), flr, flr, flr, flr]) rfl (Nat.le_of_ble_eq_true rfl) rfl (fun X => ?_)
  have hLj := isL_s j (show j < 4 by omega)
  obtain ⟨s9, s0, s1, s2, s3⟩ := id hLj
  have hrc : isRc 64 := by unfold isRc; decide
  refine r_aload_n 0 d_S_fillRows_0 rfl rfl ?_
  refine r_getR fl_S_40 (by first | with_reducible assumption | rfl) rfl d_S_fillRows_1 ?_
  refine r_astore_n 3 [_, _, _, _, _, _, _] d_S_fillRows_4 rfl (by decide) rfl ?_
  refine r_aload_n 3 d_S_fillRows_5 rfl rfl ?_
  refine r_aload_n 2 d_S_fillRows_6 rfl rfl ?_
  refine r_callVv (c_Learner_copyFrom isL_53 hLj (Or.inr (by omega)) _) lk_S_227 (by first | with_reducible assumption | rfl) d_S_fillRows_7 rfl rfl (Nat.le_of_ble_eq_true rfl) (by decide) ?_
  show Wa X _ _ _ _ _ (spareM μ (8 + 4 * j)) _
  refine r_aload_n 0 d_S_fillRows_10 rfl rfl ?_
  refine r_getR fl_S_12 (by first | with_reducible assumption | rfl) rfl d_S_fillRows_11 ?_
  refine r_getI fl_S_187 (by first | with_reducible assumption | rfl) rfl d_S_fillRows_14 ?_
  rw [spare_lo (Or.inl (by decide))]
  refine r_istore 4 [_, _, _, _, _, _, _] d_S_fillRows_17 (by decide) rfl ?_
  refine r_aload_n 1 d_S_fillRows_19 rfl rfl ?_
  refine r_iconst 0 d_S_fillRows_20 rfl ?_
  refine r_putI fp_S_302 (by first | with_reducible assumption | rfl) rfl d_S_fillRows_21 ?_
  refine r_iconst 0 d_S_fillRows_24 rfl ?_
  refine r_istore 5 [_, _, _, _, _, _, _] d_S_fillRows_25 (by decide) rfl ?_
  have lp := lpN n (fun i (w : Me × Int32 × Nat) => ∀ z1 : Value, Wa X m_S_fillRows 5 27 [.ref 0, .ref 64, .ref (8 + 4 * j), .ref 53, .int w.2.1, .int (nI i), z1] [] w.1 (fun r μ' => r = none ∧ μ' = (fillM 64 (8 + 4 * j) n μ).1)) (fun i w => w = fillM 64 (8 + 4 * j) i μ) ?_ 0 (fill0 64 (8 + 4 * j) μ) (Nat.zero_le _) rfl
  · exact lp _
  · intro i w hi hw hk z1
    have lo : ∀ c', c' < 53 → w.1.1 c' = μ.1 c' := fun c' hc' => by rw [hw, fillM, f_lo hrc hc', fill0]; simp only; rw [uI_ne (by omega), spare_lo (Or.inl hc')]
    have q4 : w.1.1 4 = μ.1 4 := lo 4 (by decide)
    have q5 : w.1.1 5 = μ.1 5 := lo 5 (by decide)
    have q6 : w.1.1 6 = μ.1 6 := lo 6 (by decide)
    have q7 : w.1.1 7 = μ.1 7 := lo 7 (by decide)
    have hinv : fInv 64 w := by rw [hw]; exact f_inv hrc (fill0_inv hrc hj hR) hL i hi
    have hk12 : w.2.2 ≤ i := by rw [hw]; exact f_cnt rfl i
    have hnx : fillM 64 (8 + 4 * j) (i + 1) μ = fstep 64 w (μ.1 5 i) (μ.1 6 i) (μ.1 7 i) := by rw [hw]; rfl
    refine r_iload 5 d_S_fillRows_27 rfl ?_
    refine r_aload_n 0 d_S_fillRows_29 rfl rfl ?_
    refine r_getR fl_S_12 (by first | with_reducible assumption | rfl) rfl d_S_fillRows_30 ?_
    refine r_getR fl_S_108 (by first | with_reducible assumption | rfl) rfl d_S_fillRows_33 ?_
    refine r_getI fl_S_115 (by first | with_reducible assumption | rfl) rfl d_S_fillRows_36 ?_
    refine r_icmp_ge d_S_fillRows_39 (fun h39 => ?_) (fun h39 => ?_)
    · refine r_ret d_S_fillRows_198 rfl ?_
      have hge := n_le h39 (by rw [q4, hln]) rfl (by omega) (by omega)
      obtain rfl : i = n := by omega
      exact ⟨rfl, by rw [hw]⟩
    · have hl : i < n := n_lt h39 (by rw [q4, hln]) rfl (by omega) (by omega)
      refine r_aload_n 0 d_S_fillRows_42 rfl rfl ?_
      refine r_getR fl_S_12 (by first | with_reducible assumption | rfl) rfl d_S_fillRows_43 ?_
      refine r_getR fl_S_108 (by first | with_reducible assumption | rfl) rfl d_S_fillRows_46 ?_
      refine r_getR fl_S_278 (by first | with_reducible assumption | rfl) rfl d_S_fillRows_49 ?_
      refine r_iload 5 d_S_fillRows_52 rfl ?_
      refine r_ialdN (by first | with_reducible assumption | rfl) (by first | with_reducible assumption | omega | decide | assumption) d_S_fillRows_54 ?_
      rw [q6]
      refine r_istore 6 [_, _, _, _, _, _, _] d_S_fillRows_55 (by decide) rfl ?_
      refine r_aload_n 0 d_S_fillRows_57 rfl rfl ?_
      refine r_getR fl_S_12 (by first | with_reducible assumption | rfl) rfl d_S_fillRows_58 ?_
      refine r_getR fl_S_108 (by first | with_reducible assumption | rfl) rfl d_S_fillRows_61 ?_
      refine r_getR fl_S_281 (by first | with_reducible assumption | rfl) rfl d_S_fillRows_64 ?_
      refine r_iload 5 d_S_fillRows_67 rfl ?_
      refine r_ialdN (by first | with_reducible assumption | rfl) (by first | with_reducible assumption | omega | decide | assumption) d_S_fillRows_69 ?_
      rw [q5]
      rcases hL i hl with ⟨hso, zp, zhp, hab⟩ | ⟨hso, zp, zhp, hab⟩ | ⟨hso, zp, zhp, hab⟩
      · rw [hab, hso]
        have hcp := cl36 zhp (show 36 ≤ 1000 by decide)
        refine r_ls d_S_fillRows_70 (List.forall_mem_cons.mpr ⟨fun h70 => ?_, List.forall_mem_cons.mpr ⟨fun h70 => ?_, fun _ h => absurd h List.not_mem_nil⟩⟩) (fun h70 => ?_)
        · refine r_aload_n 0 d_S_fillRows_96 rfl rfl ?_
          refine r_getR fl_S_47 (by first | with_reducible assumption | rfl) rfl d_S_fillRows_97 ?_
          refine r_aload_n 3 d_S_fillRows_100 rfl rfl ?_
          refine r_iload 6 d_S_fillRows_101 rfl ?_
          refine r_aload_n 0 d_S_fillRows_103 rfl rfl ?_
          refine r_getR fl_S_12 (by first | with_reducible assumption | rfl) rfl d_S_fillRows_104 ?_
          refine r_getR fl_S_108 (by first | with_reducible assumption | rfl) rfl d_S_fillRows_107 ?_
          refine r_getR fl_S_284 (by first | with_reducible assumption | rfl) rfl d_S_fillRows_110 ?_
          refine r_iload 5 d_S_fillRows_113 rfl ?_
          refine r_ialdN (by first | with_reducible assumption | rfl) (by first | with_reducible assumption | omega | decide | assumption) d_S_fillRows_115 ?_
          rw [q7]
          refine r_aload_n 0 d_S_fillRows_116 rfl rfl ?_
          refine r_getR fl_S_12 (by first | with_reducible assumption | rfl) rfl d_S_fillRows_117 ?_
          refine r_getR fl_S_184 (by first | with_reducible assumption | rfl) rfl d_S_fillRows_120 ?_
          refine r_callVv (c_Answer_find isL_53 zhp rfl _ _) lk_S_196 (by first | with_reducible assumption | rfl) d_S_fillRows_123 rfl rfl (Nat.le_of_ble_eq_true rfl) (by decide) ?_
          show Wa X _ _ _ _ _ (ansM w.1 (cF w.1 53 (μ.1 7 i) zp)) _
          refine r_aload_n 3 d_S_fillRows_126 rfl rfl ?_
          refine r_aload_n 0 d_S_fillRows_127 rfl rfl ?_
          refine r_getR fl_S_47 (by first | with_reducible assumption | rfl) rfl d_S_fillRows_128 ?_
          refine r_iload 6 d_S_fillRows_131 rfl ?_
          refine r_iload 4 d_S_fillRows_133 rfl ?_
          refine r_callVv (keep_ct isL_53 zhp _ _ _ _ _ _ _ _) lk_S_212 (by first | with_reducible assumption | rfl) d_S_fillRows_135 rfl rfl (Nat.le_of_ble_eq_true rfl) (by decide) ?_
          show Wa X _ _ _ _ _ (keepM (ansM w.1 (cF w.1 53 (μ.1 7 i) zp)) 53 zp w.2.1 (cF w.1 53 (μ.1 7 i) zp)) _
          have ka : (keepM (ansM w.1 (cF w.1 53 (μ.1 7 i) zp)) 53 zp w.2.1 (cF w.1 53 (μ.1 7 i) zp)).1 57 = (ansM w.1 (cF w.1 53 (μ.1 7 i) zp)).1 57 := by rw [keepM, r3_ne (by decide) (by decide) (by decide)]
          have kr : (keepM (ansM w.1 (cF w.1 53 (μ.1 7 i) zp)) 53 zp w.2.1 (cF w.1 53 (μ.1 7 i) zp)).1 64 1 = nI w.2.2 := by rw [keepM, r3_ne (by decide) (by decide) (by decide), ansM_ne (by decide)]; exact hinv.1
          refine r_aload_n 1 d_S_fillRows_138 rfl rfl ?_
          refine r_iload 6 d_S_fillRows_139 rfl ?_
          refine r_aload_n 0 d_S_fillRows_141 rfl rfl ?_
          refine r_getR fl_S_47 (by first | with_reducible assumption | rfl) rfl d_S_fillRows_142 ?_
          refine r_getI fl_S_200 (by first | with_reducible assumption | rfl) rfl d_S_fillRows_145 ?_
          refine r_aload_n 0 d_S_fillRows_148 rfl rfl ?_
          refine r_getR fl_S_47 (by first | with_reducible assumption | rfl) rfl d_S_fillRows_149 ?_
          refine r_getI fl_S_206 (by first | with_reducible assumption | rfl) rfl d_S_fillRows_152 ?_
          rw [ka, ansM_0, ansM_2]
          refine r_callVv (c_Rows_append isRw_64 (show w.2.2 ≤ 12 by omega) _ _ _ _ kr) lk_S_395 (by first | with_reducible assumption | rfl) d_S_fillRows_155 rfl rfl (Nat.le_of_ble_eq_true rfl) (by decide) ?_
          rw [if_pos (show w.2.2 < 12 by omega)]
          refine r_goto d_S_fillRows_158 ?_
          first | refine r_iincN 5 [_, _, _, _, _, _, _] d_S_fillRows_192 (by decide) rfl rfl ?_ | refine r_iinc 5 [_, _, _, _, _, _, _] (1) d_S_fillRows_192 (by decide) (by decide) rfl rfl ?_
          refine r_goto d_S_fillRows_195 ?_
          refine hk (_, _, w.2.2 + 1) hl ?_ _
          rw [hnx, fstep, if_pos hso, hab, hcp]
          rfl
        · exact absurd h70 (by decide)
        · exact absurd rfl (h70 (0, 96) (by simp))
      · rw [hab, hso]
        have hcp := cl36 zhp (show 36 ≤ 1000 by decide)
        refine r_ls d_S_fillRows_70 (List.forall_mem_cons.mpr ⟨fun h70 => ?_, List.forall_mem_cons.mpr ⟨fun h70 => ?_, fun _ h => absurd h List.not_mem_nil⟩⟩) (fun h70 => ?_)
        · exact absurd h70 (by decide)
        · refine r_aload_n 3 d_S_fillRows_161 rfl rfl ?_
          refine r_iload 6 d_S_fillRows_162 rfl ?_
          refine r_callVv (c_Learner_hear isL_53 zhp _) lk_S_216 (by first | with_reducible assumption | rfl) d_S_fillRows_164 rfl rfl (Nat.le_of_ble_eq_true rfl) (by decide) ?_
          refine r_goto d_S_fillRows_167 ?_
          first | refine r_iincN 5 [_, _, _, _, _, _, _] d_S_fillRows_192 (by decide) rfl rfl ?_ | refine r_iinc 5 [_, _, _, _, _, _, _] (1) d_S_fillRows_192 (by decide) (by decide) rfl rfl ?_
          refine r_goto d_S_fillRows_195 ?_
          refine hk (_, _, w.2.2) hl ?_ _
          rw [hnx, fstep, if_neg (by rw [hso]; decide), if_pos hso, hab, hcp]
          rfl
        · exact absurd rfl (h70 (1, 161) (by simp))
      · rw [hab, hso]
        have hcp := cl36 (show zp < 10 by omega) (show 10 ≤ 1000 by decide)
        refine r_ls d_S_fillRows_70 (List.forall_mem_cons.mpr ⟨fun h70 => ?_, List.forall_mem_cons.mpr ⟨fun h70 => ?_, fun _ h => absurd h List.not_mem_nil⟩⟩) (fun h70 => ?_)
        · exact absurd h70 (by decide)
        · exact absurd h70 (by decide)
        · refine r_aload_n 3 d_S_fillRows_170 rfl rfl ?_
          refine r_iload 6 d_S_fillRows_171 rfl ?_
          refine r_aload_n 0 d_S_fillRows_173 rfl rfl ?_
          refine r_getR fl_S_12 (by first | with_reducible assumption | rfl) rfl d_S_fillRows_174 ?_
          refine r_getR fl_S_184 (by first | with_reducible assumption | rfl) rfl d_S_fillRows_177 ?_
          refine r_iconst 0 d_S_fillRows_180 rfl ?_
          refine r_ialdN (j := 0) (by first | with_reducible assumption | rfl) (by first | with_reducible assumption | omega | decide | assumption) d_S_fillRows_181 ?_
          refine r_callVv (c_Learner_sleep isL_53 zp (by omega) _ _ (fun p hp => by obtain ⟨r, hr, e⟩ := hinv.2 p hp; rw [e]; exact r100 r hr)) lk_S_230 (by first | with_reducible assumption | rfl) d_S_fillRows_182 rfl rfl (Nat.le_of_ble_eq_true rfl) (by decide) ?_
          refine r_iload 4 d_S_fillRows_185 rfl ?_
          refine r_iload 6 d_S_fillRows_187 rfl ?_
          refine r_iadd d_S_fillRows_189 ?_
          refine r_istore 4 [_, _, _, _, _, _, _] d_S_fillRows_190 (by decide) rfl ?_
          first | refine r_iincN 5 [_, _, _, _, _, _, _] d_S_fillRows_192 (by decide) rfl rfl ?_ | refine r_iinc 5 [_, _, _, _, _, _, _] (1) d_S_fillRows_192 (by decide) (by decide) rfl rfl ?_
          refine r_goto d_S_fillRows_195 ?_
          refine hk (_, _, w.2.2) hl ?_ _
          rw [hnx, fstep, if_neg (by rw [hso]; decide), if_neg (by rw [hso]; decide), hab, hcp]
          rfl
set_option maxHeartbeats 400000 in
theorem c_S_prove_no {m : Nat} (l : Int32) (μ : Me) (hct : μ.1 1 1 = nI m) (hG : ¬ (0 ≤ l ∧ l < nI m)) : CtI m_S_prove 6 [.ref 0, .int l] μ (-1) μ := by
  refine Ct.of (ls := [.ref 0, .int l, flr]) rfl (Nat.le_of_ble_eq_true rfl) rfl (fun X => ?_)
  have hno := lr_no hG
  rw [← hct] at hno
  refine r_aload_n 0 d_S_prove_0 rfl rfl ?_
  refine r_getR fl_S_12 (by first | with_reducible assumption | rfl) rfl d_S_prove_1 ?_
  refine r_iload_n 1 d_S_prove_4 rfl rfl ?_
  refine r_callVa (c_School_learnerAt_no _ _ hno) lk_S_127 (by first | with_reducible assumption | rfl) d_S_prove_5 rfl rfl (Nat.le_of_ble_eq_true rfl) (by decide) ?_
  refine r_astore_nN 2 [_, _, _] d_S_prove_8 rfl (by decide) rfl ?_
  refine r_aload_nN 2 d_S_prove_9 rfl rfl ?_
  refine r_ifnonnullN d_S_prove_10 ?_
  refine r_iconst (-1) d_S_prove_13 rfl ?_
  refine r_iret .int d_S_prove_14 rfl rfl ?_
  exact ⟨rfl, rfl⟩
set_option maxHeartbeats 400000 in
theorem c_S_prove {m j n : Nat} (hm : m ≤ 4) (hj : j < m) (hn : n ≤ 12) (μ : Me) (hct : μ.1 1 1 = nI m) (hln : μ.1 4 3 = nI n) (hR : RtOk μ m) (hL : LsOk (μ.1 5) (μ.1 6) n) : CtI m_S_prove 6 [.ref 0, .int (nI j)] μ (nI (fillM 62 (8 + 4 * j) n μ).2.2) (fillM 62 (8 + 4 * j) n μ).1 := by
  refine Ct.of (ls := [.ref 0, .int (nI j), flr]) rfl (Nat.le_of_ble_eq_true rfl) rfl (fun X => ?_)
  have hrc : isRc 62 := Or.inl rfl
  refine r_aload_n 0 d_S_prove_0 rfl rfl ?_
  refine r_getR fl_S_12 (by first | with_reducible assumption | rfl) rfl d_S_prove_1 ?_
  refine r_iload_n 1 d_S_prove_4 rfl rfl ?_
  refine r_callVa (c_School_learnerAt_yes j m hj hm _ hct) lk_S_127 (by first | with_reducible assumption | rfl) d_S_prove_5 rfl rfl (Nat.le_of_ble_eq_true rfl) (by decide) ?_
  refine r_astore_n 2 [_, _, _] d_S_prove_8 rfl (by decide) rfl ?_
  refine r_aload_n 2 d_S_prove_9 rfl rfl ?_
  refine r_ifnonnull d_S_prove_10 ?_
  refine r_aload_n 0 d_S_prove_15 rfl rfl ?_
  refine r_aload_n 0 d_S_prove_16 rfl rfl ?_
  refine r_getR fl_S_65 (by first | with_reducible assumption | rfl) rfl d_S_prove_17 ?_
  refine r_aload_n 2 d_S_prove_20 rfl rfl ?_
  refine r_callVv (c_S_fillRows_62 hm hj hn _ hln hR hL) lk_S_298 (by first | with_reducible assumption | rfl) d_S_prove_21 rfl rfl (Nat.le_of_ble_eq_true rfl) (by decide) ?_
  refine r_aload_n 0 d_S_prove_24 rfl rfl ?_
  refine r_getR fl_S_65 (by first | with_reducible assumption | rfl) rfl d_S_prove_25 ?_
  refine r_getI fl_S_302 (by first | with_reducible assumption | rfl) rfl d_S_prove_28 ?_
  refine r_iret .int d_S_prove_31 rfl rfl ?_
  have hin : fInv 62 (fillM 62 (8 + 4 * j) n μ) := f_inv hrc (fill0_inv hrc hj hR) hL n (Nat.le_refl _)
  exact ⟨by rw [hin.1], rfl⟩
/-- ROW i is there in both, with the same numbers -/
def sameB (n1 n2 : Nat) (f g : Nat → Int32) (i : Nat) : Prop := i < n1 ∧ i < n2 ∧ f (3 * i) = g (3 * i) ∧ f (3 * i + 1) = g (3 * i + 1) ∧ f (3 * i + 2) = g (3 * i + 2)
set_option maxHeartbeats 400000 in
theorem c_Rows_isSameAt {i n1 n2 : Nat} (h1 : n1 ≤ 12) (h2 : n2 ≤ 12) (hi : i < 12) (μ : Me) (e1 : μ.1 62 1 = nI n1) (e2 : μ.1 64 1 = nI n2) : Ct m_Rows_isSameAt 0 [.ref 62, .int (nI i), .ref 64] μ (fun r μ' => (sameB n1 n2 (μ.1 63) (μ.1 65) i → r = some (.int 1)) ∧ (¬ sameB n1 n2 (μ.1 63) (μ.1 65) i → r = some (.int 0)) ∧ μ' = μ) := by
  refine Ct.of (ls := [.ref 62, .int (nI i), .ref 64, flr]) rfl (Nat.le_of_ble_eq_true rfl) rfl (fun X => ?_)
  have lp := lpN 3 (fun k (_ : Unit) => Wa X m_Rows_isSameAt 0 26 [.ref 62, .int (nI i), .ref 64, .int (nI (3 * i + k))] [] μ (fun r μ' => ((∀ k', k' < 3 → μ.1 63 (3 * i + k') = μ.1 65 (3 * i + k')) → r = some (.int 1)) ∧ ((∃ k', k' < 3 ∧ ¬ μ.1 63 (3 * i + k') = μ.1 65 (3 * i + k')) → r = some (.int 0)) ∧ μ' = μ)) (fun k _ => ∀ k', k' < k → μ.1 63 (3 * i + k') = μ.1 65 (3 * i + k')) ?_ 0 () (Nat.zero_le _) (fun k' h => absurd h (by omega))
  · skip
    refine r_iload_n 1 d_Rows_isSameAt_0 rfl rfl ?_
    refine r_if_lt d_Rows_isSameAt_1 (fun h1 => absurd h1 (nI_pos (by omega))) (fun h1 => ?_)
    refine r_iload_n 1 d_Rows_isSameAt_4 rfl rfl ?_
    refine r_aload_n 0 d_Rows_isSameAt_5 rfl rfl ?_
    refine r_getI fl_Rows_15 (by first | with_reducible assumption | rfl) rfl d_Rows_isSameAt_6 ?_
    refine r_icmp_ge d_Rows_isSameAt_9 (fun h9 => ?_) (fun h9 => ?_)
    · refine r_iconst 0 d_Rows_isSameAt_20 rfl ?_
      refine r_iret .boolean d_Rows_isSameAt_21 rfl (by first | decide | assumption) ?_
      refine ⟨fun z => ?_, fun _ => rfl, rfl⟩
      first
        | exact absurd z.1 (Nat.not_lt.mpr (n_le h9 e1 rfl (by omega) (by omega)))
        | exact absurd (by rw [e2]; exact nI_lt z.2.1 (by omega)) h17
    · refine r_iload_n 1 d_Rows_isSameAt_12 rfl rfl ?_
      refine r_aload_n 2 d_Rows_isSameAt_13 rfl rfl ?_
      refine r_getI fl_Rows_15 (by first | with_reducible assumption | rfl) rfl d_Rows_isSameAt_14 ?_
      refine r_icmp_lt d_Rows_isSameAt_17 (fun h17 => ?_) (fun h17 => ?_)
      · refine r_iconst 3 d_Rows_isSameAt_22 rfl ?_
        refine r_iload_n 1 d_Rows_isSameAt_23 rfl rfl ?_
        refine r_imul d_Rows_isSameAt_24 ?_
        refine r_istore_n 3 [_, _, _, _] d_Rows_isSameAt_25 rfl (by decide) rfl ?_
        rw [mul3] at *
        refine Wa.mono ?_ lp
        intro r μ' hh
        have k1 : i < n1 := n_lt h9 e1 rfl (by omega) (by omega)
        have k2 : i < n2 := (nI_ltI (by omega) (by omega)).mp (by rw [← e2]; exact h17)
        refine ⟨fun z => hh.1 (fun k' hk' => ?_), fun z => hh.2.1 (Classical.byContradiction fun y => z ⟨k1, k2, ?_, ?_, ?_⟩), hh.2.2⟩
        · rcases (show k' = 0 ∨ k' = 1 ∨ k' = 2 by omega) with rfl | rfl | rfl
          · exact z.2.2.1
          · exact z.2.2.2.1
          · exact z.2.2.2.2
        · exact Classical.byContradiction fun x => y ⟨0, by decide, x⟩
        · exact Classical.byContradiction fun x => y ⟨1, by decide, x⟩
        · exact Classical.byContradiction fun x => y ⟨2, by decide, x⟩
      · refine r_iconst 0 d_Rows_isSameAt_20 rfl ?_
        refine r_iret .boolean d_Rows_isSameAt_21 rfl (by first | decide | assumption) ?_
        refine ⟨fun z => ?_, fun _ => rfl, rfl⟩
        first
          | exact absurd z.1 (Nat.not_lt.mpr (n_le h9 e1 rfl (by omega) (by omega)))
          | exact absurd (by rw [e2]; exact nI_lt z.2.1 (by omega)) h17
  · intro k _ hk hI hn
    refine r_iload_n 3 d_Rows_isSameAt_26 rfl rfl ?_
    refine r_iconst 3 d_Rows_isSameAt_27 rfl ?_
    refine r_iload_n 1 d_Rows_isSameAt_28 rfl rfl ?_
    refine r_imul d_Rows_isSameAt_29 ?_
    refine r_iconst 3 d_Rows_isSameAt_30 rfl ?_
    refine r_iadd d_Rows_isSameAt_31 ?_
    rw [mul3, show nI (3 * i) + 3 = nI (3 * i + 3) from nI_add _ 3]
    refine r_icmp_ge d_Rows_isSameAt_32 (fun h32 => ?_) (fun h32 => ?_)
    · refine r_iconst 1 d_Rows_isSameAt_58 rfl ?_
      refine r_iret .boolean d_Rows_isSameAt_59 rfl (by first | decide | assumption) ?_
      have hge := n_le h32 rfl rfl (by omega) (by omega)
      obtain rfl : k = 3 := by omega
      exact ⟨fun _ => rfl, fun z => absurd z (fun y => by obtain ⟨k', hk', x⟩ := y; exact x (hI k' hk')), rfl⟩
    · have hl : 3 * i + k < 3 * i + 3 := n_lt h32 rfl rfl (by omega) (by omega)
      refine r_aload_n 0 d_Rows_isSameAt_35 rfl rfl ?_
      refine r_getR fl_Rows_9 (by first | with_reducible assumption | rfl) rfl d_Rows_isSameAt_36 ?_
      refine r_iload_n 3 d_Rows_isSameAt_39 rfl rfl ?_
      refine r_ialdN (by first | with_reducible assumption | rfl) (by first | with_reducible assumption | omega | decide | assumption) d_Rows_isSameAt_40 ?_
      refine r_aload_n 2 d_Rows_isSameAt_41 rfl rfl ?_
      refine r_getR fl_Rows_9 (by first | with_reducible assumption | rfl) rfl d_Rows_isSameAt_42 ?_
      refine r_iload_n 3 d_Rows_isSameAt_45 rfl rfl ?_
      refine r_ialdN (by first | with_reducible assumption | rfl) (by first | with_reducible assumption | omega | decide | assumption) d_Rows_isSameAt_46 ?_
      refine r_icmp_eq d_Rows_isSameAt_47 (fun h47 => ?_) (fun h47 => ?_)
      · first | refine r_iincN 3 [_, _, _, _] d_Rows_isSameAt_52 (by decide) rfl rfl ?_ | refine r_iinc 3 [_, _, _, _] (1) d_Rows_isSameAt_52 (by decide) (by decide) rfl rfl ?_
        refine r_goto d_Rows_isSameAt_55 ?_
        refine hn () (by omega) (fun k' hk' => ?_)
        rcases (show k' < k ∨ k' = k by omega) with y | rfl
        · exact hI k' y
        · exact h47
      · refine r_iconst 0 d_Rows_isSameAt_50 rfl ?_
        refine r_iret .boolean d_Rows_isSameAt_51 rfl (by first | decide | assumption) ?_
        exact ⟨fun z => absurd (z k (by omega)) h47, fun _ => rfl, rfl⟩
set_option maxHeartbeats 400000 in
theorem c_S_judge_no {m : Nat} (l : Int32) (μ : Me) (hct : μ.1 1 1 = nI m) (hG : ¬ (0 ≤ l ∧ l < nI m)) : CtI m_S_judge 6 [.ref 0, .int l] μ (-1) μ := by
  refine Ct.of (ls := [.ref 0, .int l, flr, flr]) rfl (Nat.le_of_ble_eq_true rfl) rfl (fun X => ?_)
  have hno := lr_no hG
  rw [← hct] at hno
  refine r_aload_n 0 d_S_judge_0 rfl rfl ?_
  refine r_getR fl_S_12 (by first | with_reducible assumption | rfl) rfl d_S_judge_1 ?_
  refine r_iload_n 1 d_S_judge_4 rfl rfl ?_
  refine r_callVa (c_School_learnerAt_no _ _ hno) lk_S_127 (by first | with_reducible assumption | rfl) d_S_judge_5 rfl rfl (Nat.le_of_ble_eq_true rfl) (by decide) ?_
  refine r_astore_nN 2 [_, _, _, _] d_S_judge_8 rfl (by decide) rfl ?_
  refine r_aload_nN 2 d_S_judge_9 rfl rfl ?_
  refine r_ifnonnullN d_S_judge_10 ?_
  refine r_iconst (-1) d_S_judge_13 rfl ?_
  refine r_iret .int d_S_judge_14 rfl rfl ?_
  exact ⟨rfl, rfl⟩
theorem f_62 {c n : Nat} {μ : Me} {c' : Nat} (hc : c' = 62 ∨ c' = 63) : ∀ i, (fillM 64 c i μ).1.1 c' = μ.1 c'
  | 0 => by rw [fillM, fF, fill0]; simp only; rw [uI_ne (by omega), spare_lo (Or.inr (by omega))]
  | i + 1 => by
    have ih := f_62 (c := c) (n := n) (μ := μ) hc i
    rw [fillM, fF, ← fillM]
    unfold fstep
    split
    · simp only
      rw [rowM_ne (by omega) (by omega), keepM, r3_ne (by omega) (by omega) (by omega), ansM_ne (by omega), ih]
    · split
      · simp only
        rw [uI_ne (by omega), ih]
      · simp only
        rw [rI_ne (by omega), ih]
set_option maxHeartbeats 400000 in
theorem c_S_judge {m j n n1 : Nat} (hm : m ≤ 4) (hj : j < m) (hn : n ≤ 12) (hn1 : n1 ≤ 12) (μ : Me) (hct : μ.1 1 1 = nI m) (hln : μ.1 4 3 = nI n) (hr1 : μ.1 62 1 = nI n1) (hR : RtOk μ m) (hL : LsOk (μ.1 5) (μ.1 6) n) : Ct m_S_judge 6 [.ref 0, .int (nI j)] μ (fun r μ' => (∀ k, k ≤ n1 → (∀ i, i < k → sameB n1 (fillM 64 (8 + 4 * j) n μ).2.2 (μ.1 63) ((fillM 64 (8 + 4 * j) n μ).1.1 65) i) → (k < n1 → ¬ sameB n1 (fillM 64 (8 + 4 * j) n μ).2.2 (μ.1 63) ((fillM 64 (8 + 4 * j) n μ).1.1 65) k → r = some (.int (nI (k + 1)))) ∧ (k = n1 → r = some (.int (if n1 < (fillM 64 (8 + 4 * j) n μ).2.2 then 222 else 0)))) ∧ μ' = (fillM 64 (8 + 4 * j) n μ).1) := by
  refine Ct.of (ls := [.ref 0, .int (nI j), flr, flr]) rfl (Nat.le_of_ble_eq_true rfl) rfl (fun X => ?_)
  have hrc : isRc 64 := Or.inr rfl
  have hin : fInv 64 (fillM 64 (8 + 4 * j) n μ) := f_inv hrc (fill0_inv hrc hj hR) hL n (Nat.le_refl _)
  have hc2 : (fillM 64 (8 + 4 * j) n μ).2.2 ≤ n := f_cnt rfl n
  have e62 : (fillM 64 (8 + 4 * j) n μ).1.1 62 = μ.1 62 := f_62 (n := n) (Or.inl rfl) n
  have e63 : (fillM 64 (8 + 4 * j) n μ).1.1 63 = μ.1 63 := f_62 (n := n) (Or.inr rfl) n
  have e64 := hin.1
  generalize hν : (fillM 64 (8 + 4 * j) n μ).1 = ν at *
  generalize hk2 : (fillM 64 (8 + 4 * j) n μ).2.2 = n2 at *
  have e64 : ν.1 64 1 = nI n2 := e64
  refine r_aload_n 0 d_S_judge_0 rfl rfl ?_
  refine r_getR fl_S_12 (by first | with_reducible assumption | rfl) rfl d_S_judge_1 ?_
  refine r_iload_n 1 d_S_judge_4 rfl rfl ?_
  refine r_callVa (c_School_learnerAt_yes j m hj hm _ hct) lk_S_127 (by first | with_reducible assumption | rfl) d_S_judge_5 rfl rfl (Nat.le_of_ble_eq_true rfl) (by decide) ?_
  refine r_astore_n 2 [_, _, _, _] d_S_judge_8 rfl (by decide) rfl ?_
  refine r_aload_n 2 d_S_judge_9 rfl rfl ?_
  refine r_ifnonnull d_S_judge_10 ?_
  refine r_aload_n 0 d_S_judge_15 rfl rfl ?_
  refine r_aload_n 0 d_S_judge_16 rfl rfl ?_
  refine r_getR fl_S_69 (by first | with_reducible assumption | rfl) rfl d_S_judge_17 ?_
  refine r_aload_n 2 d_S_judge_20 rfl rfl ?_
  refine r_callVv (c_S_fillRows_64 hm hj hn _ hln hR hL) lk_S_298 (by first | with_reducible assumption | rfl) d_S_judge_21 rfl rfl (Nat.le_of_ble_eq_true rfl) (by decide) ?_
  rw [hν]
  refine r_iconst 0 d_S_judge_24 rfl ?_
  refine r_istore_n 3 [_, _, _, _] d_S_judge_25 rfl (by decide) rfl ?_
  have lp := lpN n1 (fun i (_ : Unit) => Wa X m_S_judge 6 26 [.ref 0, .int (nI j), .ref (8 + 4 * j), .int (nI i)] [] ν (fun r μ' => (∀ k, k ≤ n1 → (∀ i, i < k → sameB n1 n2 (μ.1 63) (ν.1 65) i) → (k < n1 → ¬ sameB n1 n2 (μ.1 63) (ν.1 65) k → r = some (.int (nI (k + 1)))) ∧ (k = n1 → r = some (.int (if n1 < n2 then 222 else 0)))) ∧ μ' = ν)) (fun i _ => ∀ i', i' < i → sameB n1 n2 (μ.1 63) (ν.1 65) i') ?_ 0 () (Nat.zero_le _) (fun i' h => absurd h (by omega))
  · exact lp
  · intro i _ hi hI hk
    refine r_iload_n 3 d_S_judge_26 rfl rfl ?_
    refine r_aload_n 0 d_S_judge_27 rfl rfl ?_
    refine r_getR fl_S_65 (by first | with_reducible assumption | rfl) rfl d_S_judge_28 ?_
    refine r_getI fl_S_302 (by first | with_reducible assumption | rfl) rfl d_S_judge_31 ?_
    refine r_icmp_ge d_S_judge_34 (fun h34 => ?_) (fun h34 => ?_)
    · have hge := n_le h34 (by rw [e62, hr1]) rfl (by omega) (by omega)
      obtain rfl : i = n1 := by omega
      refine r_aload_n 0 d_S_judge_62 rfl rfl ?_
      refine r_getR fl_S_65 (by first | with_reducible assumption | rfl) rfl d_S_judge_63 ?_
      refine r_getI fl_S_302 (by first | with_reducible assumption | rfl) rfl d_S_judge_66 ?_
      refine r_aload_n 0 d_S_judge_69 rfl rfl ?_
      refine r_getR fl_S_69 (by first | with_reducible assumption | rfl) rfl d_S_judge_70 ?_
      refine r_getI fl_S_302 (by first | with_reducible assumption | rfl) rfl d_S_judge_73 ?_
      refine r_icmp_ge d_S_judge_76 (fun h76 => ?_) (fun h76 => ?_)
      · refine r_iconst 0 d_S_judge_85 rfl ?_
        refine r_iret .int d_S_judge_86 rfl rfl ?_
        refine ⟨fun k hk' hall => ⟨fun hkl hne => absurd (hI k hkl) hne, fun _ => ?_⟩, rfl⟩
        first
          | (have hz := n_le h76 e64 (by rw [e62, hr1]) (by omega) (by omega); rw [if_neg (by omega)])
          | (have hz := n_lt h76 e64 (by rw [e62, hr1]) (by omega) (by omega); rw [if_pos (by omega)])
      · refine r_sipush (222) d_S_judge_79 (by decide) ?_
        refine r_goto d_S_judge_82 ?_
        refine r_iret .int d_S_judge_86 rfl rfl ?_
        refine ⟨fun k hk' hall => ⟨fun hkl hne => absurd (hI k hkl) hne, fun _ => ?_⟩, rfl⟩
        first
          | (have hz := n_le h76 e64 (by rw [e62, hr1]) (by omega) (by omega); rw [if_neg (by omega)])
          | (have hz := n_lt h76 e64 (by rw [e62, hr1]) (by omega) (by omega); rw [if_pos (by omega)])
    · have hl : i < n1 := n_lt h34 (by rw [e62, hr1]) rfl (by omega) (by omega)
      refine r_aload_n 0 d_S_judge_37 rfl rfl ?_
      refine r_getR fl_S_65 (by first | with_reducible assumption | rfl) rfl d_S_judge_38 ?_
      refine r_iload_n 3 d_S_judge_41 rfl rfl ?_
      refine r_aload_n 0 d_S_judge_42 rfl rfl ?_
      refine r_getR fl_S_69 (by first | with_reducible assumption | rfl) rfl d_S_judge_43 ?_
      refine r_callV (c_Rows_isSameAt (i := i) hn1 (show n2 ≤ 12 by omega) (by omega) _ (by rw [e62, hr1]) e64) lk_S_309 (by first | with_reducible assumption | rfl) d_S_judge_46 rfl rfl (Nat.le_of_ble_eq_true rfl) (by decide) ?_
      rw [e63]
      rintro r μ' ⟨hy, hno, rfl⟩
      by_cases hs : sameB n1 n2 (μ.1 63) (μ'.1 65) i
      · rw [hy hs]
        refine r_if_ne d_S_judge_49 (fun h49 => ?_) (fun h49 => absurd h49 (by decide))
        first | refine r_iincN 3 [_, _, _, _] d_S_judge_56 (by decide) rfl rfl ?_ | refine r_iinc 3 [_, _, _, _] (1) d_S_judge_56 (by decide) (by decide) rfl rfl ?_
        refine r_goto d_S_judge_59 ?_
        refine hk () hl (fun i' hi' => ?_)
        rcases (show i' < i ∨ i' = i by omega) with y | rfl
        · exact hI i' y
        · exact hs
      · rw [hno hs]
        refine r_if_ne d_S_judge_49 (fun h49 => absurd rfl h49) (fun h49 => ?_)
        refine r_iload_n 3 d_S_judge_52 rfl rfl ?_
        refine r_iconst 1 d_S_judge_53 rfl ?_
        refine r_iadd d_S_judge_54 ?_
        refine r_iret .int d_S_judge_55 rfl rfl ?_
        refine ⟨fun k hk' hall => ⟨fun hkl hne => ?_, fun hkl => ?_⟩, rfl⟩
        · rcases (show k < i ∨ k = i ∨ i < k by omega) with y | y | y
          · exact absurd (hI k y) hne
          · rw [y, nI_succ]
          · exact absurd (hall i y) hs
        · exact absurd (hall i (by omega)) hs
