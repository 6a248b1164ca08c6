/-! the reference: rows of a lesson -/
theorem uI_comm {μ : Me} {c c' i j : Nat} {a b : Int32} (h : c ≠ c') : uI (uI μ c i a) c' j b = uI (uI μ c' j b) c i a := by
  refine Me_ext (fun z x => ?_) (fun _ _ => rfl)
  by_cases h1 : z = c'
  · subst h1; rw [uI_eq, uI_ne (Ne.symm h), uI_ne (Ne.symm h), uI_eq]
  · rw [uI_ne h1]
    by_cases h2 : z = c
    · subst h2; rw [uI_eq, uI_eq, uI_ne h1]
    · rw [uI_ne h2, uI_ne h2, uI_ne h1]
theorem uI_swap {μ : Me} {c i j : Nat} {a b : Int32} (h : i ≠ j) : uI (uI μ c i a) c j b = uI (uI μ c j b) c i a := by
  refine Me_ext (fun z x => ?_) (fun _ _ => rfl)
  by_cases h1 : z = c
  · subst h1
    by_cases hj : x = j
    · subst hj; rw [uI_at, uI_off (Ne.symm h), uI_at]
    · rw [uI_off hj]
      by_cases hi : x = i
      · subst hi; rw [uI_at, uI_at]
      · rw [uI_off hi, uI_off hi, uI_off hj]
  · rw [uI_ne h1, uI_ne h1, uI_ne h1, uI_ne h1]
theorem saM_u {μ : Me} {q : Q4} {c x : Nat} {v : Int32} (h : c = 82 → x ≠ 5 ∧ x ≠ 6 ∧ x ≠ 7) : uI (saM μ q) c x v = saM (uI μ c x v) q := by
  by_cases e : c = 82
  · subst e
    obtain ⟨h5, h6, h7⟩ := h rfl
    rw [saM, uI_swap (Ne.symm h7), uI_swap (Ne.symm h5), uI_swap (Ne.symm h6), saM]
  · rw [saM, uI_comm (Ne.symm e), uI_comm (Ne.symm e), uI_comm (Ne.symm e), saM]
theorem dsM_u {μ : Me} {s : (Nat → Int32) × Q4} {c x : Nat} {v : Int32} (h83 : c ≠ 83) (h : c = 82 → x ≠ 5 ∧ x ≠ 6 ∧ x ≠ 7) : uI (dsM μ s) c x v = dsM (uI μ c x v) s := by
  rw [dsM, uI_rIc (Ne.symm h83), saM_u h, dsM]
abbrev FR : Type := ((Nat → Int32) × Q4) × (Nat → Int32) × Nat
def fsM (μ : Me) (T : FR) : Me := dsM (uI (rI μ 92 T.2.1) 82 24 (nI T.2.2)) T.1
def fr2 (A l m : Nat) (W L : Nat → Int32) (T0 : FR) : Nat → FR
  | 0 => T0
  | i + 1 => (dst A l m W L (fr2 A l m W L T0 i).1 i, if L (3 * i) = 0 then (upd (upd (upd (fr2 A l m W L T0 i).2.1 (3 * (fr2 A l m W L T0 i).2.2) (L (3 * i + 1))) (3 * (fr2 A l m W L T0 i).2.2 + 1) (dsv A l W L (fr2 A l m W L T0 i).1 i)) (3 * (fr2 A l m W L T0 i).2.2 + 2) (dst A l m W L (fr2 A l m W L T0 i).1 i).2.2.2.1, (fr2 A l m W L T0 i).2.2 + 1) else (fr2 A l m W L T0 i).2)
theorem fr2_ok {A l m : Nat} {W L : Nat → Int32} {T0 : FR} (h : RowOk T0.1.1 A m) (hl : l < m) (hW : 0 ≤ W 0 ∧ W 0 ≤ 50) {n : Nat} (hI : ∀ i, i < n → IT L i) : ∀ i, i ≤ n → RowOk (fr2 A l m W L T0 i).1.1 A m
  | 0, _ => h
  | i + 1, hi => dst_ok (fr2_ok h hl hW hI i (by omega)) hl (hI i (by omega)) hW
theorem fr2_le {A l m : Nat} {W L : Nat → Int32} {T0 : FR} (h0 : T0.2.2 = 0) : ∀ i, (fr2 A l m W L T0 i).2.2 ≤ i
  | 0 => Nat.le_of_eq h0
  | i + 1 => by
    have := fr2_le (A := A) (l := l) (m := m) (W := W) (L := L) h0 i
    rw [fr2]
    simp only
    split
    · simp only; omega
    · omega
/-- the memory when the rows that must be were found -/
def T0 (μ : Me) : FR := ((ldG (μ.1 83) 442, q0 μ), μ.1 92, 0)
theorem T0_e {μ : Me} : uI (ldM μ) 82 24 0 = fsM (uI μ 82 1 (nI 442)) (T0 μ) := by
  have e : saM (uI (uI μ 82 1 (nI 442)) 82 24 (nI 0)) (q0 μ) = uI (uI μ 82 1 (nI 442)) 82 24 (nI 0) := by
    rw [saM, q0]
    simp only
    rw [uI_self (μ := uI (uI μ 82 1 (nI 442)) 82 24 (nI 0)) (v := μ.1 82 6) rfl, uI_self (μ := uI (uI μ 82 1 (nI 442)) 82 24 (nI 0)) (v := μ.1 82 5) rfl, uI_self (μ := uI (uI μ 82 1 (nI 442)) 82 24 (nI 0)) (v := μ.1 82 7) rfl]
  rw [fsM, dsM, T0]
  simp only
  rw [show rI (uI μ 82 1 (nI 442)) 92 (μ.1 92) = uI μ 82 1 (nI 442) from rI_self (μ := uI μ 82 1 (nI 442)) (c := 92), e, ldM, uI_rIc (by decide)]
  rfl
set_option maxHeartbeats 400000 in
theorem c_M_findRows {m j n : Nat} (hm : m ≤ 4) (hj : j < m) (hn : n ≤ 12) (μ : Me) (hat : μ.1 82 1 = nI 0) (hln : μ.1 82 18 = nI n) (hR : RowOk (μ.1 83) 0 m) (hW : 0 ≤ μ.1 84 0 ∧ μ.1 84 0 ≤ 50) (hI : ∀ i, i < n → IT (μ.1 89) i) : CtV m_M_findRows 8 [.ref 82, .int (nI j)] μ (fsM μ (fr2 442 j m (μ.1 84) (μ.1 89) (T0 μ) n)) := by
  refine Ct.of (ls := [.ref 82, .int (nI j), flr, flr]) rfl (Nat.le_of_ble_eq_true rfl) rfl (fun X => ?_)
  have gs : ∀ i, fr2 442 j m (μ.1 84) (μ.1 89) (T0 μ) (i + 1) = (dst 442 j m (μ.1 84) (μ.1 89) (fr2 442 j m (μ.1 84) (μ.1 89) (T0 μ) i).1 i, if (μ.1 89) (3 * i) = 0 then (upd (upd (upd (fr2 442 j m (μ.1 84) (μ.1 89) (T0 μ) i).2.1 (3 * (fr2 442 j m (μ.1 84) (μ.1 89) (T0 μ) i).2.2) ((μ.1 89) (3 * i + 1))) (3 * (fr2 442 j m (μ.1 84) (μ.1 89) (T0 μ) i).2.2 + 1) (dsv 442 j (μ.1 84) (μ.1 89) (fr2 442 j m (μ.1 84) (μ.1 89) (T0 μ) i).1 i)) (3 * (fr2 442 j m (μ.1 84) (μ.1 89) (T0 μ) i).2.2 + 2) (dst 442 j m (μ.1 84) (μ.1 89) (fr2 442 j m (μ.1 84) (μ.1 89) (T0 μ) i).1 i).2.2.2.1, (fr2 442 j m (μ.1 84) (μ.1 89) (T0 μ) i).2.2 + 1) else (fr2 442 j m (μ.1 84) (μ.1 89) (T0 μ) i).2) := fun _ => rfl
  have g0 : fr2 442 j m (μ.1 84) (μ.1 89) (T0 μ) 0 = T0 μ := rfl
  have gok := fr2_ok (A := 442) (l := j) (W := μ.1 84) (L := μ.1 89) (T0 := T0 μ) (hR.lend hm) hj hW hI
  have gle := fr2_le (A := 442) (l := j) (m := m) (W := μ.1 84) (L := μ.1 89) (T0 := T0 μ) rfl
  generalize fr2 442 j m (μ.1 84) (μ.1 89) (T0 μ) = G at *
  refine r_aload_n 0 d_M_findRows_0 rfl rfl ?_
  refine r_callVv (c_M_lends _) lk_M_202 (by first | with_reducible assumption | rfl) d_M_findRows_1 rfl rfl (Nat.le_of_ble_eq_true rfl) (by decide) ?_
  refine r_aload_n 0 d_M_findRows_4 rfl rfl ?_
  refine r_iconst 0 d_M_findRows_5 rfl ?_
  refine r_putI fp_M_295 (by first | with_reducible assumption | rfl) rfl d_M_findRows_6 ?_
  rw [T0_e]
  refine r_iconst 0 d_M_findRows_9 rfl ?_
  refine r_istore_n 2 [_, _, _, _] d_M_findRows_10 rfl (by decide) rfl ?_
  refine lpN n (fun i (μ1 : Me) => ∀ z1 : Value, Wa X m_M_findRows 8 11 [.ref 82, .int (nI j), .int (nI i), z1] [] μ1 _) (fun i μ1 => μ1 = fsM (uI μ 82 1 (nI 442)) (G i)) ?_ 0 _ (Nat.zero_le _) (by rw [g0]) _
  intro i μ1 hi hv hk z1
  subst hv
  have e18 : (fsM (uI μ 82 1 (nI 442)) (G i)).1 82 18 = nI n := by rw [fsM, dsM_o (by decide) (by decide) (by decide), uI_off (by decide), rI_ne (by decide), uI_off (by decide), hln]
  refine r_iload_n 2 d_M_findRows_11 rfl rfl ?_
  refine r_aload_n 0 d_M_findRows_12 rfl rfl ?_
  refine r_getI fl_M_288 (by first | with_reducible assumption | rfl) rfl d_M_findRows_13 ?_
  rw [e18]
  refine r_icmp_ge d_M_findRows_16 (fun h16 => ?_) (fun h16 => ?_)
  · refine r_aload_n 0 d_M_findRows_105 rfl rfl ?_
    refine r_iconst 0 d_M_findRows_106 rfl ?_
    refine r_putI fp_M_106 (by first | with_reducible assumption | rfl) rfl d_M_findRows_107 ?_
    refine r_ret d_M_findRows_110 rfl ?_
    have hge := n_le h16 rfl rfl (by omega) (by omega)
    obtain rfl : i = n := by omega
    refine ⟨rfl, ?_⟩
    rw [fsM, dsM_u (by decide) (fun _ => ⟨by decide, by decide, by decide⟩), uI_swap (show 24 ≠ 1 by decide), uI_rIc (show 92 ≠ 82 by decide), uI_uI, uI_self (show μ.1 82 1 = 0 from hat), fsM]
  · have hli : i < n := n_lt h16 rfl rfl (by omega) (by omega)
    have hgl := gle i
    have hb89 : (uI (rI (uI μ 82 1 (nI 442)) 92 (G i).2.1) 82 24 (nI (G i).2.2)).1 89 = μ.1 89 := by rw [uI_ne (by decide), rI_ne (by decide), uI_ne (by decide)]
    have hb84 : (uI (rI (uI μ 82 1 (nI 442)) 92 (G i).2.1) 82 24 (nI (G i).2.2)).1 84 = μ.1 84 := by rw [uI_ne (by decide), rI_ne (by decide), uI_ne (by decide)]
    have hb1 : (uI (rI (uI μ 82 1 (nI 442)) 92 (G i).2.1) 82 24 (nI (G i).2.2)).1 82 1 = nI 442 := by rw [uI_off (by decide), rI_ne (by decide), uI_at]
    have hb24 : (uI (rI (uI μ 82 1 (nI 442)) 92 (G i).2.1) 82 24 (nI (G i).2.2)).1 82 24 = nI (G i).2.2 := uI_at
    have hb92 : (uI (rI (uI μ 82 1 (nI 442)) 92 (G i).2.1) 82 24 (nI (G i).2.2)).1 92 = (G i).2.1 := by rw [uI_ne (by decide), rI_eq]
    have cd := c_M_does (A := 442) (by decide) hm hj (show i < 12 by omega) (uI (rI (uI μ 82 1 (nI 442)) 92 (G i).2.1) 82 24 (nI (G i).2.2)) (G i).1 hb1 (by rw [hb89]; exact hI i hli) (gok i hi)
    rw [hb84, hb89] at cd
    refine r_aload_n 0 d_M_findRows_19 rfl rfl ?_
    refine r_iload_n 1 d_M_findRows_20 rfl rfl ?_
    refine r_iload_n 2 d_M_findRows_21 rfl rfl ?_
    refine r_callVi cd lk_M_291 (by first | with_reducible assumption | rfl) d_M_findRows_22 rfl rfl (Nat.le_of_ble_eq_true rfl) (by decide) ?_
    refine r_istore_n 3 [_, _, _, _] d_M_findRows_25 rfl (by decide) rfl ?_
    refine r_aload_n 0 d_M_findRows_26 rfl rfl ?_
    refine r_getR fl_M_32 (by first | with_reducible assumption | rfl) rfl d_M_findRows_27 ?_
    refine r_iconst 3 d_M_findRows_30 rfl ?_
    refine r_iload_n 2 d_M_findRows_31 rfl rfl ?_
    refine r_imul d_M_findRows_32 ?_
    rw [mul3]
    refine r_ialdN (by first | with_reducible assumption | rfl) (show 3 * i < 36 by omega) d_M_findRows_33 ?_
    rw [dsM_ne (by decide) (by decide), hb89]
    refine r_if_ne d_M_findRows_34 (fun h34 => ?_) (fun h34 => ?_)
    · first
        | (have z34 : ¬ μ.1 89 (3 * i) = 0 := h34
           skip)
        | (have z34 : μ.1 89 (3 * i) = 0 := h34
           rw [dsM_u (by decide) (fun _ => ⟨by decide, by decide, by decide⟩), ← nI_succ])
      first | refine r_iincN 2 [_, _, _, _] d_M_findRows_99 (by decide) rfl rfl ?_ | refine r_iinc 2 [_, _, _, _] (1) d_M_findRows_99 (by decide) (by decide) rfl rfl ?_
      refine r_goto d_M_findRows_102 ?_
      refine hk _ hli ?_ _
      rw [fsM, gs]
      first
        | (have z34 : ¬ μ.1 89 (3 * i) = 0 := h34
           rw [if_neg z34])
        | (have z34 : μ.1 89 (3 * i) = 0 := h34
           rw [if_pos z34]
           simp only
           rw [uI_comm (show 82 ≠ 92 by decide), uI_comm (show 82 ≠ 92 by decide), uI_comm (show 82 ≠ 92 by decide), uI_uI, uI_rI, uI_rI, uI_rI])
    · refine r_aload_n 0 d_M_findRows_37 rfl rfl ?_
      refine r_getR fl_M_41 (by first | with_reducible assumption | rfl) rfl d_M_findRows_38 ?_
      refine r_iconst 3 d_M_findRows_41 rfl ?_
      refine r_aload_n 0 d_M_findRows_42 rfl rfl ?_
      refine r_getI fl_M_295 (by first | with_reducible assumption | rfl) rfl d_M_findRows_43 ?_
      rw [dsM_o (by decide) (by decide) (by decide), hb24]
      refine r_imul d_M_findRows_46 ?_
      rw [mul3]
      refine r_aload_n 0 d_M_findRows_47 rfl rfl ?_
      refine r_getR fl_M_32 (by first | with_reducible assumption | rfl) rfl d_M_findRows_48 ?_
      refine r_iconst 3 d_M_findRows_51 rfl ?_
      refine r_iload_n 2 d_M_findRows_52 rfl rfl ?_
      refine r_imul d_M_findRows_53 ?_
      refine r_iconst 1 d_M_findRows_54 rfl ?_
      refine r_iadd d_M_findRows_55 ?_
      rw [mul3, ← nI_succ]
      refine r_ialdN (by first | with_reducible assumption | rfl) (show 3 * i + 1 < 36 by omega) d_M_findRows_56 ?_
      rw [dsM_ne (by decide) (by decide), hb89]
      refine r_iastN (by first | with_reducible assumption | rfl) (show 3 * (G i).2.2 < 36 by omega) d_M_findRows_57 ?_
      rw [dsM_u (by decide) (fun z => absurd z (by decide))]
      refine r_aload_n 0 d_M_findRows_58 rfl rfl ?_
      refine r_getR fl_M_41 (by first | with_reducible assumption | rfl) rfl d_M_findRows_59 ?_
      refine r_iconst 3 d_M_findRows_62 rfl ?_
      refine r_aload_n 0 d_M_findRows_63 rfl rfl ?_
      refine r_getI fl_M_295 (by first | with_reducible assumption | rfl) rfl d_M_findRows_64 ?_
      rw [dsM_o (by decide) (by decide) (by decide), uI_ne (show 82 ≠ 92 by decide), hb24]
      refine r_imul d_M_findRows_67 ?_
      refine r_iconst 1 d_M_findRows_68 rfl ?_
      refine r_iadd d_M_findRows_69 ?_
      rw [mul3, ← nI_succ]
      refine r_iload_n 3 d_M_findRows_70 rfl rfl ?_
      refine r_iastN (by first | with_reducible assumption | rfl) (show 3 * (G i).2.2 + 1 < 36 by omega) d_M_findRows_71 ?_
      rw [dsM_u (by decide) (fun z => absurd z (by decide))]
      refine r_aload_n 0 d_M_findRows_72 rfl rfl ?_
      refine r_getR fl_M_41 (by first | with_reducible assumption | rfl) rfl d_M_findRows_73 ?_
      refine r_iconst 3 d_M_findRows_76 rfl ?_
      refine r_aload_n 0 d_M_findRows_77 rfl rfl ?_
      refine r_getI fl_M_295 (by first | with_reducible assumption | rfl) rfl d_M_findRows_78 ?_
      rw [dsM_o (by decide) (by decide) (by decide), uI_ne (show 82 ≠ 92 by decide), uI_ne (show 82 ≠ 92 by decide), hb24]
      refine r_imul d_M_findRows_81 ?_
      refine r_iconst 2 d_M_findRows_82 rfl ?_
      refine r_iadd d_M_findRows_83 ?_
      rw [mul3, add2]
      refine r_aload_n 0 d_M_findRows_84 rfl rfl ?_
      refine r_getI fl_M_164 (by first | with_reducible assumption | rfl) rfl d_M_findRows_85 ?_
      rw [dsM_7]
      refine r_iastN (by first | with_reducible assumption | rfl) (show 3 * (G i).2.2 + 2 < 36 by omega) d_M_findRows_88 ?_
      rw [dsM_u (by decide) (fun z => absurd z (by decide))]
      refine r_aload_n 0 d_M_findRows_89 rfl rfl ?_
      refine r_dup d_M_findRows_90 rfl ?_
      refine r_getI fl_M_295 (by first | with_reducible assumption | rfl) rfl d_M_findRows_91 ?_
      rw [dsM_o (by decide) (by decide) (by decide), uI_ne (show 82 ≠ 92 by decide), uI_ne (show 82 ≠ 92 by decide), uI_ne (show 82 ≠ 92 by decide), hb24]
      refine r_iconst 1 d_M_findRows_94 rfl ?_
      refine r_iadd d_M_findRows_95 ?_
      refine r_putI fp_M_295 (by first | with_reducible assumption | rfl) rfl d_M_findRows_96 ?_
      first
        | (have z34 : ¬ μ.1 89 (3 * i) = 0 := h34
           skip)
        | (have z34 : μ.1 89 (3 * i) = 0 := h34
           rw [dsM_u (by decide) (fun _ => ⟨by decide, by decide, by decide⟩), ← nI_succ])
      first | refine r_iincN 2 [_, _, _, _] d_M_findRows_99 (by decide) rfl rfl ?_ | refine r_iinc 2 [_, _, _, _] (1) d_M_findRows_99 (by decide) (by decide) rfl rfl ?_
      refine r_goto d_M_findRows_102 ?_
      refine hk _ hli ?_ _
      rw [fsM, gs]
      first
        | (have z34 : ¬ μ.1 89 (3 * i) = 0 := h34
           rw [if_neg z34])
        | (have z34 : μ.1 89 (3 * i) = 0 := h34
           rw [if_pos z34]
           simp only
           rw [uI_comm (show 82 ≠ 92 by decide), uI_comm (show 82 ≠ 92 by decide), uI_comm (show 82 ≠ 92 by decide), uI_uI, uI_rI, uI_rI, uI_rI])
set_option maxHeartbeats 400000 in
theorem c_M_prove_no {m : Nat} (hm : m ≤ 4) (l : Int32) (μ : Me) (hct : μ.1 83 0 = nI m) (hG : ¬ (0 ≤ l ∧ l < nI m)) : CtI m_M_prove 9 [.ref 82, .int l] μ (-1) μ := by
  refine Ct.of (ls := [.ref 82, .int l, flr]) rfl (Nat.le_of_ble_eq_true rfl) rfl (fun X => ?_)
  refine r_aload_n 0 d_M_prove_0 rfl rfl ?_
  refine r_iload_n 1 d_M_prove_1 rfl rfl ?_
  refine r_callVi (c_M_isLearner hm _ _ hct) lk_M_115 (by first | with_reducible assumption | rfl) d_M_prove_2 rfl rfl (Nat.le_of_ble_eq_true rfl) (by decide) ?_
  refine r_if_ne d_M_prove_5 (fun h5 => absurd (bzn hG) h5) (fun h5 => ?_)
  refine r_iconst (-1) d_M_prove_8 rfl ?_
  refine r_iret .int d_M_prove_9 rfl rfl ?_
  exact ⟨rfl, rfl⟩
/-- rows found become the rows -/
def pvM (μ : Me) (T : FR) : Me := rI (uI (fsM μ T) 82 23 (nI T.2.2)) 91 (cut (3 * T.2.2) T.2.1 (μ.1 91))
set_option maxHeartbeats 400000 in
theorem c_M_prove {m j n : Nat} (hm : m ≤ 4) (hj : j < m) (hn : n ≤ 12) (μ : Me) (hat : μ.1 82 1 = nI 0) (hln : μ.1 82 18 = nI n) (hR : RowOk (μ.1 83) 0 m) (hW : 0 ≤ μ.1 84 0 ∧ μ.1 84 0 ≤ 50) (hI : ∀ i, i < n → IT (μ.1 89) i) : CtI m_M_prove 9 [.ref 82, .int (nI j)] μ (nI (fr2 442 j m (μ.1 84) (μ.1 89) (T0 μ) n).2.2) (pvM μ (fr2 442 j m (μ.1 84) (μ.1 89) (T0 μ) n)) := by
  refine Ct.of (ls := [.ref 82, .int (nI j), flr]) rfl (Nat.le_of_ble_eq_true rfl) rfl (fun X => ?_)
  have cf := c_M_findRows hm hj hn μ hat hln hR hW hI
  have gle := fr2_le (A := 442) (l := j) (m := m) (W := μ.1 84) (L := μ.1 89) (T0 := T0 μ) rfl n
  generalize fr2 442 j m (μ.1 84) (μ.1 89) (T0 μ) n = T at *
  have e24 : (fsM μ T).1 82 24 = nI T.2.2 := by rw [fsM, dsM_o (by decide) (by decide) (by decide), uI_at]
  have e92 : (fsM μ T).1 92 = T.2.1 := by rw [fsM, dsM_ne (by decide) (by decide), uI_ne (by decide), rI_eq]
  have e91 : (uI (fsM μ T) 82 23 (nI T.2.2)).1 91 = μ.1 91 := by rw [uI_ne (by decide), fsM, dsM_ne (by decide) (by decide), uI_ne (by decide), rI_ne (by decide)]
  refine r_aload_n 0 d_M_prove_0 rfl rfl ?_
  refine r_iload_n 1 d_M_prove_1 rfl rfl ?_
  refine r_callVi (c_M_isLearner hm _ _ hR.1) lk_M_115 (by first | with_reducible assumption | rfl) d_M_prove_2 rfl rfl (Nat.le_of_ble_eq_true rfl) (by decide) ?_
  refine r_if_ne d_M_prove_5 (fun h5 => ?_) (fun h5 => absurd h5 (bzy (nIb hj hm)))
  refine r_aload_n 0 d_M_prove_10 rfl rfl ?_
  refine r_iload_n 1 d_M_prove_11 rfl rfl ?_
  refine r_callVv cf lk_M_298 (by first | with_reducible assumption | rfl) d_M_prove_12 rfl rfl (Nat.le_of_ble_eq_true rfl) (by decide) ?_
  refine r_aload_n 0 d_M_prove_15 rfl rfl ?_
  refine r_aload_n 0 d_M_prove_16 rfl rfl ?_
  refine r_getI fl_M_295 (by first | with_reducible assumption | rfl) rfl d_M_prove_17 ?_
  rw [e24]
  refine r_putI fp_M_301 (by first | with_reducible assumption | rfl) rfl d_M_prove_20 ?_
  refine r_iconst 0 d_M_prove_23 rfl ?_
  refine r_istore_n 2 [_, _, _] d_M_prove_24 rfl (by decide) rfl ?_
  refine lpN (3 * T.2.2) (fun i (μ1 : Me) => Wa X m_M_prove 9 25 [.ref 82, .int (nI j), .int (nI i)] [] μ1 _) (fun i μ1 => μ1 = rI (uI (fsM μ T) 82 23 (nI T.2.2)) 91 (cut i T.2.1 (μ.1 91))) ?_ 0 _ (Nat.zero_le _) (by rw [cut_0, ← e91, rI_self])
  intro i μ1 hi hv hk
  subst hv
  have x23 : (rI (uI (fsM μ T) 82 23 (nI T.2.2)) 91 (cut i T.2.1 (μ.1 91))).1 82 23 = nI T.2.2 := by rw [rI_ne (by decide), uI_at]
  refine r_iload_n 2 d_M_prove_25 rfl rfl ?_
  refine r_iconst 3 d_M_prove_26 rfl ?_
  refine r_aload_n 0 d_M_prove_27 rfl rfl ?_
  refine r_getI fl_M_301 (by first | with_reducible assumption | rfl) rfl d_M_prove_28 ?_
  rw [x23]
  refine r_imul d_M_prove_31 ?_
  rw [mul3]
  refine r_icmp_ge d_M_prove_32 (fun h32 => ?_) (fun h32 => ?_)
  · have hge := n_le h32 rfl rfl (by omega) (by omega)
    obtain rfl : i = 3 * T.2.2 := by omega
    refine r_aload_n 0 d_M_prove_53 rfl rfl ?_
    refine r_getI fl_M_301 (by first | with_reducible assumption | rfl) rfl d_M_prove_54 ?_
    refine r_iret .int d_M_prove_57 rfl rfl ?_
    exact ⟨by rw [x23], rfl⟩
  · have hli : i < 3 * T.2.2 := n_lt h32 rfl rfl (by omega) (by omega)
    refine r_aload_n 0 d_M_prove_35 rfl rfl ?_
    refine r_getR fl_M_38 (by first | with_reducible assumption | rfl) rfl d_M_prove_36 ?_
    refine r_iload_n 2 d_M_prove_39 rfl rfl ?_
    refine r_aload_n 0 d_M_prove_40 rfl rfl ?_
    refine r_getR fl_M_41 (by first | with_reducible assumption | rfl) rfl d_M_prove_41 ?_
    refine r_iload_n 2 d_M_prove_44 rfl rfl ?_
    refine r_ialdN (by first | with_reducible assumption | rfl) (show i < 36 by omega) d_M_prove_45 ?_
    rw [rI_ne (show 92 ≠ 91 by decide), uI_ne (show 92 ≠ 82 by decide), e92]
    refine r_iastN (by first | with_reducible assumption | rfl) (show i < 36 by omega) d_M_prove_46 ?_
    first | refine r_iincN 2 [_, _, _] d_M_prove_47 (by decide) rfl rfl ?_ | refine r_iinc 2 [_, _, _] (1) d_M_prove_47 (by decide) (by decide) rfl rfl ?_
    refine r_goto d_M_prove_50 ?_
    exact hk _ hli (by rw [uI_rI, cut_s])
set_option maxHeartbeats 400000 in
theorem c_M_judge_no {m : Nat} (hm : m ≤ 4) (l : Int32) (μ : Me) (hct : μ.1 83 0 = nI m) (hG : ¬ (0 ≤ l ∧ l < nI m)) : CtI m_M_judge 9 [.ref 82, .int l] μ (-1) μ := by
  refine Ct.of (ls := [.ref 82, .int l, flr, flr, flr]) rfl (Nat.le_of_ble_eq_true rfl) rfl (fun X => ?_)
  refine r_aload_n 0 d_M_judge_0 rfl rfl ?_
  refine r_iload_n 1 d_M_judge_1 rfl rfl ?_
  refine r_callVi (c_M_isLearner hm _ _ hct) lk_M_115 (by first | with_reducible assumption | rfl) d_M_judge_2 rfl rfl (Nat.le_of_ble_eq_true rfl) (by decide) ?_
  refine r_if_ne d_M_judge_5 (fun h5 => absurd (bzn hG) h5) (fun h5 => ?_)
  refine r_iconst (-1) d_M_judge_8 rfl ?_
  refine r_iret .int d_M_judge_9 rfl rfl ?_
  exact ⟨rfl, rfl⟩
/-- what judge answers: by the first row that isn't as it must be -/
def jdP (n1 n2 : Nat) (f g : Nat → Int32) (r : Option Value) : Prop := ∀ k, k ≤ n1 → (∀ i, i < k → sameB n1 n2 f g i) → (k < n1 → ¬ sameB n1 n2 f g k → r = some (.int (nI (k + 1)))) ∧ (k = n1 → r = some (.int (if n1 < n2 then 222 else 0)))
def pr3 (n2 : Nat) (f g : Nat → Int32) (i k : Nat) : Prop := i < n2 ∧ ∀ x, x < k → f (3 * i + x) = g (3 * i + x)
theorem pr3_same {n1 n2 : Nat} {f g : Nat → Int32} {i : Nat} (hi : i < n1) : pr3 n2 f g i 3 ↔ sameB n1 n2 f g i := by
  constructor
  · rintro ⟨h1, h2⟩
    exact ⟨hi, h1, h2 0 (by decide), h2 1 (by decide), h2 2 (by decide)⟩
  · rintro ⟨-, h1, h2, h3, h4⟩
    refine ⟨h1, fun x hx => ?_⟩
    have h3' : x = 0 ∨ x = 1 ∨ x = 2 := by omega
    rcases h3' with rfl | rfl | rfl
    · exact h2
    · exact h3
    · exact h4
set_option maxHeartbeats 400000 in
theorem c_M_judge {m j n n1 : Nat} (hm : m ≤ 4) (hj : j < m) (hn : n ≤ 12) (hn1 : n1 ≤ 12) (μ : Me) (hat : μ.1 82 1 = nI 0) (hln : μ.1 82 18 = nI n) (hr1 : μ.1 82 23 = nI n1) (hR : RowOk (μ.1 83) 0 m) (hW : 0 ≤ μ.1 84 0 ∧ μ.1 84 0 ≤ 50) (hI : ∀ i, i < n → IT (μ.1 89) i) : Ct m_M_judge 9 [.ref 82, .int (nI j)] μ (fun r μ' => jdP n1 (fr2 442 j m (μ.1 84) (μ.1 89) (T0 μ) n).2.2 (μ.1 91) (fr2 442 j m (μ.1 84) (μ.1 89) (T0 μ) n).2.1 r ∧ μ' = fsM μ (fr2 442 j m (μ.1 84) (μ.1 89) (T0 μ) n)) := by
  refine Ct.of (ls := [.ref 82, .int (nI j), flr, flr, flr]) rfl (Nat.le_of_ble_eq_true rfl) rfl (fun X => ?_)
  have cf := c_M_findRows hm hj hn μ hat hln hR hW hI
  have gle := fr2_le (A := 442) (l := j) (m := m) (W := μ.1 84) (L := μ.1 89) (T0 := T0 μ) rfl n
  generalize fr2 442 j m (μ.1 84) (μ.1 89) (T0 μ) n = T at *
  have e24 : (fsM μ T).1 82 24 = nI T.2.2 := by rw [fsM, dsM_o (by decide) (by decide) (by decide), uI_at]
  have e23 : (fsM μ T).1 82 23 = nI n1 := by rw [fsM, dsM_o (by decide) (by decide) (by decide), uI_off (by decide), rI_ne (by decide), hr1]
  have e92 : (fsM μ T).1 92 = T.2.1 := by rw [fsM, dsM_ne (by decide) (by decide), uI_ne (by decide), rI_eq]
  have e91 : (fsM μ T).1 91 = μ.1 91 := by rw [fsM, dsM_ne (by decide) (by decide), uI_ne (by decide), rI_ne (by decide)]
  generalize hν : fsM μ T = ν at *
  refine r_aload_n 0 d_M_judge_0 rfl rfl ?_
  refine r_iload_n 1 d_M_judge_1 rfl rfl ?_
  refine r_callVi (c_M_isLearner hm _ _ hR.1) lk_M_115 (by first | with_reducible assumption | rfl) d_M_judge_2 rfl rfl (Nat.le_of_ble_eq_true rfl) (by decide) ?_
  refine r_if_ne d_M_judge_5 (fun h5 => ?_) (fun h5 => absurd h5 (bzy (nIb hj hm)))
  refine r_aload_n 0 d_M_judge_10 rfl rfl ?_
  refine r_iload_n 1 d_M_judge_11 rfl rfl ?_
  refine r_callVv cf lk_M_298 (by first | with_reducible assumption | rfl) d_M_judge_12 rfl rfl (Nat.le_of_ble_eq_true rfl) (by decide) ?_
  refine r_iconst 0 d_M_judge_15 rfl ?_
  refine r_istore_n 2 [_, _, _, _, _] d_M_judge_16 rfl (by decide) rfl ?_
  refine lpN n1 (fun i (_ : Unit) => ∀ z1 z2 : Value, Wa X m_M_judge 9 17 [.ref 82, .int (nI j), .int (nI i), z1, z2] [] ν _) (fun i _ => ∀ x, x < i → sameB n1 T.2.2 (μ.1 91) T.2.1 x) ?_ 0 () (Nat.zero_le _) (fun _ hh => absurd hh (Nat.not_lt_zero _)) _ _
  intro i _ hi hv hk z1 z2
  refine r_iload_n 2 d_M_judge_17 rfl rfl ?_
  refine r_aload_n 0 d_M_judge_18 rfl rfl ?_
  refine r_getI fl_M_301 (by first | with_reducible assumption | rfl) rfl d_M_judge_19 ?_
  rw [e23]
  refine r_icmp_ge d_M_judge_22 (fun h22 => ?_) (fun h22 => ?_)
  · refine r_aload_n 0 d_M_judge_103 rfl rfl ?_
    refine r_getI fl_M_301 (by first | with_reducible assumption | rfl) rfl d_M_judge_104 ?_
    refine r_aload_n 0 d_M_judge_107 rfl rfl ?_
    refine r_getI fl_M_295 (by first | with_reducible assumption | rfl) rfl d_M_judge_108 ?_
    refine r_icmp_ge d_M_judge_111 (fun h111 => ?_) (fun h111 => ?_)
    · refine r_iconst 0 d_M_judge_120 rfl ?_
      refine r_iret .int d_M_judge_121 rfl rfl ?_
      have hge := n_le h22 rfl rfl (by omega) (by omega)
      obtain rfl : i = n1 := by omega
      refine ⟨fun k hk1 hk2 => ⟨fun hk3 hk4 => absurd (hv k hk3) hk4, fun _ => ?_⟩, rfl⟩
      rw [e23, e24] at h111
      first
        | (have z := (nI_leI (a := T.2.2) (b := i) (by omega) (by omega)).mp h111
           rw [if_neg (by omega)])
        | (have z := mt (nI_leI (a := T.2.2) (b := i) (by omega) (by omega)).mpr h111
           rw [if_pos (by omega)])
    · refine r_sipush (222) d_M_judge_114 (by decide) ?_
      refine r_goto d_M_judge_117 ?_
      refine r_iret .int d_M_judge_121 rfl rfl ?_
      have hge := n_le h22 rfl rfl (by omega) (by omega)
      obtain rfl : i = n1 := by omega
      refine ⟨fun k hk1 hk2 => ⟨fun hk3 hk4 => absurd (hv k hk3) hk4, fun _ => ?_⟩, rfl⟩
      rw [e23, e24] at h111
      first
        | (have z := (nI_leI (a := T.2.2) (b := i) (by omega) (by omega)).mp h111
           rw [if_neg (by omega)])
        | (have z := mt (nI_leI (a := T.2.2) (b := i) (by omega) (by omega)).mpr h111
           rw [if_pos (by omega)])
  · have hli : i < n1 := n_lt h22 rfl rfl (by omega) (by omega)
    refine r_iload_n 2 d_M_judge_25 rfl rfl ?_
    refine r_aload_n 0 d_M_judge_26 rfl rfl ?_
    refine r_getI fl_M_295 (by first | with_reducible assumption | rfl) rfl d_M_judge_27 ?_
    rw [e24]
    refine r_icmp_ge d_M_judge_30 (fun h30 => ?_) (fun h30 => ?_)
    · refine r_iconst 0 d_M_judge_37 rfl ?_
      refine r_istore_n 3 [_, _, _, _, _] d_M_judge_38 rfl (by decide) rfl ?_
      refine r_iconst 0 d_M_judge_39 rfl ?_
      refine r_istore 4 [_, _, _, _, _] d_M_judge_40 (by decide) rfl ?_
      have lp := lpN 3 (fun k (w : Int32) => Wa X m_M_judge 9 42 [.ref 82, .int (nI j), .int (nI i), .int w, .int (nI k)] [] ν (fun r μ' => jdP n1 T.2.2 (μ.1 91) T.2.1 r ∧ μ' = ν)) (fun k w => (w = 1 ∧ pr3 T.2.2 (μ.1 91) T.2.1 i k) ∨ (w = 0 ∧ ¬ pr3 T.2.2 (μ.1 91) T.2.1 i k)) ?_
      · first
          | (have z30 : nI T.2.2 ≤ nI i := h30
             have y30 := (nI_leI (by omega) (by omega)).mp z30
             exact lp 0 0 (Nat.zero_le _) (Or.inr ⟨rfl, fun z => absurd z.1 (by omega)⟩))
          | (have z30 : ¬ nI T.2.2 ≤ nI i := h30
             have y30 := mt (nI_leI (a := T.2.2) (b := i) (by omega) (by omega)).mpr z30
             exact lp 0 1 (Nat.zero_le _) (Or.inl ⟨rfl, by omega, fun x hx => absurd hx (Nat.not_lt_zero _)⟩))
      · intro k w hki hw hkk
        refine r_iload 4 d_M_judge_42 rfl ?_
        refine r_iconst 3 d_M_judge_44 rfl ?_
        refine r_icmp_ge d_M_judge_45 (fun h45 => ?_) (fun h45 => ?_)
        · have key : (w = 0 ∧ ¬ sameB n1 T.2.2 (μ.1 91) T.2.1 i) ∨ (w = 1 ∧ sameB n1 T.2.2 (μ.1 91) T.2.1 i) := by
            first
              | (have z45 : (3 : Int32) ≤ nI k := h45
                 have hge := n_le (a := 3) z45 rfl rfl (by decide) (by omega)
                 obtain rfl : k = 3 := by omega
                 rcases hw with ⟨h1, h2⟩ | ⟨h1, h2⟩
                 · exact Or.inr ⟨h1, (pr3_same hli).mp h2⟩
                 · exact Or.inl ⟨h1, fun z => h2 ((pr3_same hli).mpr z)⟩)
              | (have z49 : w = 0 := h49
                 refine Or.inl ⟨z49, fun z => ?_⟩
                 have hp3 := (pr3_same hli).mpr z
                 rcases hw with ⟨h1, -⟩ | ⟨-, h2⟩
                 · rw [z49] at h1; exact absurd h1 (by decide)
                 · exact h2 ⟨hp3.1, fun x hx => hp3.2 x (by omega)⟩)
          rcases key with ⟨rfl, hs⟩ | ⟨rfl, hs⟩
          · refine r_iload_n 3 d_M_judge_89 rfl rfl ?_
            refine r_if_ne d_M_judge_90 (fun h90 => absurd rfl h90) (fun h90 => ?_)
            refine r_iload_n 2 d_M_judge_93 rfl rfl ?_
            refine r_iconst 1 d_M_judge_94 rfl ?_
            refine r_iadd d_M_judge_95 ?_
            rw [← nI_succ]
            refine r_iret .int d_M_judge_96 rfl rfl ?_
            refine ⟨fun k hk1 hk2 => ⟨fun hk3 hk4 => ?_, fun hk3 => ?_⟩, rfl⟩
            · have e : k = i := by
                rcases Nat.lt_trichotomy k i with y | y | y
                · exact absurd (hv k y) hk4
                · exact y
                · exact absurd (hk2 i y) hs
              rw [e]
            · exact absurd (hk2 i (by omega)) hs
          · refine r_iload_n 3 d_M_judge_89 rfl rfl ?_
            refine r_if_ne d_M_judge_90 (fun h90 => ?_) (fun h90 => absurd h90 (by decide))
            first | refine r_iincN 2 [_, _, _, _, _] d_M_judge_97 (by decide) rfl rfl ?_ | refine r_iinc 2 [_, _, _, _, _] (1) d_M_judge_97 (by decide) (by decide) rfl rfl ?_
            refine r_goto d_M_judge_100 ?_
            refine hk () hli (fun x hx => ?_) _ _
            rcases Nat.lt_or_ge x i with y | y
            · exact hv x y
            · rw [show x = i by omega]; exact hs
        · have hlk : k < 3 := n_lt (a := 3) h45 rfl rfl (by decide) (by omega)
          refine r_iload_n 3 d_M_judge_48 rfl rfl ?_
          refine r_if_eq d_M_judge_49 (fun h49 => ?_) (fun h49 => ?_)
          · have key : (w = 0 ∧ ¬ sameB n1 T.2.2 (μ.1 91) T.2.1 i) ∨ (w = 1 ∧ sameB n1 T.2.2 (μ.1 91) T.2.1 i) := by
              first
                | (have z45 : (3 : Int32) ≤ nI k := h45
                   have hge := n_le (a := 3) z45 rfl rfl (by decide) (by omega)
                   obtain rfl : k = 3 := by omega
                   rcases hw with ⟨h1, h2⟩ | ⟨h1, h2⟩
                   · exact Or.inr ⟨h1, (pr3_same hli).mp h2⟩
                   · exact Or.inl ⟨h1, fun z => h2 ((pr3_same hli).mpr z)⟩)
                | (have z49 : w = 0 := h49
                   refine Or.inl ⟨z49, fun z => ?_⟩
                   have hp3 := (pr3_same hli).mpr z
                   rcases hw with ⟨h1, -⟩ | ⟨-, h2⟩
                   · rw [z49] at h1; exact absurd h1 (by decide)
                   · exact h2 ⟨hp3.1, fun x hx => hp3.2 x (by omega)⟩)
            rcases key with ⟨rfl, hs⟩ | ⟨rfl, hs⟩
            · refine r_iload_n 3 d_M_judge_89 rfl rfl ?_
              refine r_if_ne d_M_judge_90 (fun h90 => absurd rfl h90) (fun h90 => ?_)
              refine r_iload_n 2 d_M_judge_93 rfl rfl ?_
              refine r_iconst 1 d_M_judge_94 rfl ?_
              refine r_iadd d_M_judge_95 ?_
              rw [← nI_succ]
              refine r_iret .int d_M_judge_96 rfl rfl ?_
              refine ⟨fun k hk1 hk2 => ⟨fun hk3 hk4 => ?_, fun hk3 => ?_⟩, rfl⟩
              · have e : k = i := by
                  rcases Nat.lt_trichotomy k i with y | y | y
                  · exact absurd (hv k y) hk4
                  · exact y
                  · exact absurd (hk2 i y) hs
                rw [e]
              · exact absurd (hk2 i (by omega)) hs
            · refine r_iload_n 3 d_M_judge_89 rfl rfl ?_
              refine r_if_ne d_M_judge_90 (fun h90 => ?_) (fun h90 => absurd h90 (by decide))
              first | refine r_iincN 2 [_, _, _, _, _] d_M_judge_97 (by decide) rfl rfl ?_ | refine r_iinc 2 [_, _, _, _, _] (1) d_M_judge_97 (by decide) (by decide) rfl rfl ?_
              refine r_goto d_M_judge_100 ?_
              refine hk () hli (fun x hx => ?_) _ _
              rcases Nat.lt_or_ge x i with y | y
              · exact hv x y
              · rw [show x = i by omega]; exact hs
          · refine r_aload_n 0 d_M_judge_52 rfl rfl ?_
            refine r_getR fl_M_38 (by first | with_reducible assumption | rfl) rfl d_M_judge_53 ?_
            refine r_iconst 3 d_M_judge_56 rfl ?_
            refine r_iload_n 2 d_M_judge_57 rfl rfl ?_
            refine r_imul d_M_judge_58 ?_
            refine r_iload 4 d_M_judge_59 rfl ?_
            refine r_iadd d_M_judge_61 ?_
            rw [mul3, nI_add]
            refine r_ialdN (by first | with_reducible assumption | rfl) (show 3 * i + k < 36 by omega) d_M_judge_62 ?_
            rw [e91]
            refine r_aload_n 0 d_M_judge_63 rfl rfl ?_
            refine r_getR fl_M_41 (by first | with_reducible assumption | rfl) rfl d_M_judge_64 ?_
            refine r_iconst 3 d_M_judge_67 rfl ?_
            refine r_iload_n 2 d_M_judge_68 rfl rfl ?_
            refine r_imul d_M_judge_69 ?_
            refine r_iload 4 d_M_judge_70 rfl ?_
            refine r_iadd d_M_judge_72 ?_
            rw [mul3, nI_add]
            refine r_ialdN (by first | with_reducible assumption | rfl) (show 3 * i + k < 36 by omega) d_M_judge_73 ?_
            rw [e92]
            refine r_icmp_ne d_M_judge_74 (fun h74 => ?_) (fun h74 => ?_)
            · refine r_iconst 0 d_M_judge_81 rfl ?_
              refine r_istore_n 3 [_, _, _, _, _] d_M_judge_82 rfl (by decide) rfl ?_
              first | refine r_iincN 4 [_, _, _, _, _] d_M_judge_83 (by decide) rfl rfl ?_ | refine r_iinc 4 [_, _, _, _, _] (1) d_M_judge_83 (by decide) (by decide) rfl rfl ?_
              refine r_goto d_M_judge_86 ?_
              have hp : pr3 T.2.2 (μ.1 91) T.2.1 i k := hw.elim (fun z => z.2) (fun z => absurd z.1 h49)
              first
                | (have z74 : ¬ μ.1 91 (3 * i + k) = T.2.1 (3 * i + k) := h74
                   exact hkk 0 hlk (Or.inr ⟨rfl, fun z => z74 (z.2 k (by omega))⟩))
                | (have z74 : μ.1 91 (3 * i + k) = T.2.1 (3 * i + k) := h74
                   refine hkk 1 hlk (Or.inl ⟨rfl, hp.1, fun x hx => ?_⟩)
                   rcases Nat.lt_or_ge x k with y | y
                   · exact hp.2 x y
                   · rw [show x = k by omega]; exact z74)
            · refine r_iconst 1 d_M_judge_77 rfl ?_
              refine r_goto d_M_judge_78 ?_
              refine r_istore_n 3 [_, _, _, _, _] d_M_judge_82 rfl (by decide) rfl ?_
              first | refine r_iincN 4 [_, _, _, _, _] d_M_judge_83 (by decide) rfl rfl ?_ | refine r_iinc 4 [_, _, _, _, _] (1) d_M_judge_83 (by decide) (by decide) rfl rfl ?_
              refine r_goto d_M_judge_86 ?_
              have hp : pr3 T.2.2 (μ.1 91) T.2.1 i k := hw.elim (fun z => z.2) (fun z => absurd z.1 h49)
              first
                | (have z74 : ¬ μ.1 91 (3 * i + k) = T.2.1 (3 * i + k) := h74
                   exact hkk 0 hlk (Or.inr ⟨rfl, fun z => z74 (z.2 k (by omega))⟩))
                | (have z74 : μ.1 91 (3 * i + k) = T.2.1 (3 * i + k) := h74
                   refine hkk 1 hlk (Or.inl ⟨rfl, hp.1, fun x hx => ?_⟩)
                   rcases Nat.lt_or_ge x k with y | y
                   · exact hp.2 x y
                   · rw [show x = k by omega]; exact z74)
    · refine r_iconst 1 d_M_judge_33 rfl ?_
      refine r_goto d_M_judge_34 ?_
      refine r_istore_n 3 [_, _, _, _, _] d_M_judge_38 rfl (by decide) rfl ?_
      refine r_iconst 0 d_M_judge_39 rfl ?_
      refine r_istore 4 [_, _, _, _, _] d_M_judge_40 (by decide) rfl ?_
      have lp := lpN 3 (fun k (w : Int32) => Wa X m_M_judge 9 42 [.ref 82, .int (nI j), .int (nI i), .int w, .int (nI k)] [] ν (fun r μ' => jdP n1 T.2.2 (μ.1 91) T.2.1 r ∧ μ' = ν)) (fun k w => (w = 1 ∧ pr3 T.2.2 (μ.1 91) T.2.1 i k) ∨ (w = 0 ∧ ¬ pr3 T.2.2 (μ.1 91) T.2.1 i k)) ?_
      · first
          | (have z30 : nI T.2.2 ≤ nI i := h30
             have y30 := (nI_leI (by omega) (by omega)).mp z30
             exact lp 0 0 (Nat.zero_le _) (Or.inr ⟨rfl, fun z => absurd z.1 (by omega)⟩))
          | (have z30 : ¬ nI T.2.2 ≤ nI i := h30
             have y30 := mt (nI_leI (a := T.2.2) (b := i) (by omega) (by omega)).mpr z30
             exact lp 0 1 (Nat.zero_le _) (Or.inl ⟨rfl, by omega, fun x hx => absurd hx (Nat.not_lt_zero _)⟩))
      · intro k w hki hw hkk
        refine r_iload 4 d_M_judge_42 rfl ?_
        refine r_iconst 3 d_M_judge_44 rfl ?_
        refine r_icmp_ge d_M_judge_45 (fun h45 => ?_) (fun h45 => ?_)
        · have key : (w = 0 ∧ ¬ sameB n1 T.2.2 (μ.1 91) T.2.1 i) ∨ (w = 1 ∧ sameB n1 T.2.2 (μ.1 91) T.2.1 i) := by
            first
              | (have z45 : (3 : Int32) ≤ nI k := h45
                 have hge := n_le (a := 3) z45 rfl rfl (by decide) (by omega)
                 obtain rfl : k = 3 := by omega
                 rcases hw with ⟨h1, h2⟩ | ⟨h1, h2⟩
                 · exact Or.inr ⟨h1, (pr3_same hli).mp h2⟩
                 · exact Or.inl ⟨h1, fun z => h2 ((pr3_same hli).mpr z)⟩)
              | (have z49 : w = 0 := h49
                 refine Or.inl ⟨z49, fun z => ?_⟩
                 have hp3 := (pr3_same hli).mpr z
                 rcases hw with ⟨h1, -⟩ | ⟨-, h2⟩
                 · rw [z49] at h1; exact absurd h1 (by decide)
                 · exact h2 ⟨hp3.1, fun x hx => hp3.2 x (by omega)⟩)
          rcases key with ⟨rfl, hs⟩ | ⟨rfl, hs⟩
          · refine r_iload_n 3 d_M_judge_89 rfl rfl ?_
            refine r_if_ne d_M_judge_90 (fun h90 => absurd rfl h90) (fun h90 => ?_)
            refine r_iload_n 2 d_M_judge_93 rfl rfl ?_
            refine r_iconst 1 d_M_judge_94 rfl ?_
            refine r_iadd d_M_judge_95 ?_
            rw [← nI_succ]
            refine r_iret .int d_M_judge_96 rfl rfl ?_
            refine ⟨fun k hk1 hk2 => ⟨fun hk3 hk4 => ?_, fun hk3 => ?_⟩, rfl⟩
            · have e : k = i := by
                rcases Nat.lt_trichotomy k i with y | y | y
                · exact absurd (hv k y) hk4
                · exact y
                · exact absurd (hk2 i y) hs
              rw [e]
            · exact absurd (hk2 i (by omega)) hs
          · refine r_iload_n 3 d_M_judge_89 rfl rfl ?_
            refine r_if_ne d_M_judge_90 (fun h90 => ?_) (fun h90 => absurd h90 (by decide))
            first | refine r_iincN 2 [_, _, _, _, _] d_M_judge_97 (by decide) rfl rfl ?_ | refine r_iinc 2 [_, _, _, _, _] (1) d_M_judge_97 (by decide) (by decide) rfl rfl ?_
            refine r_goto d_M_judge_100 ?_
            refine hk () hli (fun x hx => ?_) _ _
            rcases Nat.lt_or_ge x i with y | y
            · exact hv x y
            · rw [show x = i by omega]; exact hs
        · have hlk : k < 3 := n_lt (a := 3) h45 rfl rfl (by decide) (by omega)
          refine r_iload_n 3 d_M_judge_48 rfl rfl ?_
          refine r_if_eq d_M_judge_49 (fun h49 => ?_) (fun h49 => ?_)
          · have key : (w = 0 ∧ ¬ sameB n1 T.2.2 (μ.1 91) T.2.1 i) ∨ (w = 1 ∧ sameB n1 T.2.2 (μ.1 91) T.2.1 i) := by
              first
                | (have z45 : (3 : Int32) ≤ nI k := h45
                   have hge := n_le (a := 3) z45 rfl rfl (by decide) (by omega)
                   obtain rfl : k = 3 := by omega
                   rcases hw with ⟨h1, h2⟩ | ⟨h1, h2⟩
                   · exact Or.inr ⟨h1, (pr3_same hli).mp h2⟩
                   · exact Or.inl ⟨h1, fun z => h2 ((pr3_same hli).mpr z)⟩)
                | (have z49 : w = 0 := h49
                   refine Or.inl ⟨z49, fun z => ?_⟩
                   have hp3 := (pr3_same hli).mpr z
                   rcases hw with ⟨h1, -⟩ | ⟨-, h2⟩
                   · rw [z49] at h1; exact absurd h1 (by decide)
                   · exact h2 ⟨hp3.1, fun x hx => hp3.2 x (by omega)⟩)
            rcases key with ⟨rfl, hs⟩ | ⟨rfl, hs⟩
            · refine r_iload_n 3 d_M_judge_89 rfl rfl ?_
              refine r_if_ne d_M_judge_90 (fun h90 => absurd rfl h90) (fun h90 => ?_)
              refine r_iload_n 2 d_M_judge_93 rfl rfl ?_
              refine r_iconst 1 d_M_judge_94 rfl ?_
              refine r_iadd d_M_judge_95 ?_
              rw [← nI_succ]
              refine r_iret .int d_M_judge_96 rfl rfl ?_
              refine ⟨fun k hk1 hk2 => ⟨fun hk3 hk4 => ?_, fun hk3 => ?_⟩, rfl⟩
              · have e : k = i := by
                  rcases Nat.lt_trichotomy k i with y | y | y
                  · exact absurd (hv k y) hk4
                  · exact y
                  · exact absurd (hk2 i y) hs
                rw [e]
              · exact absurd (hk2 i (by omega)) hs
            · refine r_iload_n 3 d_M_judge_89 rfl rfl ?_
              refine r_if_ne d_M_judge_90 (fun h90 => ?_) (fun h90 => absurd h90 (by decide))
              first | refine r_iincN 2 [_, _, _, _, _] d_M_judge_97 (by decide) rfl rfl ?_ | refine r_iinc 2 [_, _, _, _, _] (1) d_M_judge_97 (by decide) (by decide) rfl rfl ?_
              refine r_goto d_M_judge_100 ?_
              refine hk () hli (fun x hx => ?_) _ _
              rcases Nat.lt_or_ge x i with y | y
              · exact hv x y
              · rw [show x = i by omega]; exact hs
          · refine r_aload_n 0 d_M_judge_52 rfl rfl ?_
            refine r_getR fl_M_38 (by first | with_reducible assumption | rfl) rfl d_M_judge_53 ?_
            refine r_iconst 3 d_M_judge_56 rfl ?_
            refine r_iload_n 2 d_M_judge_57 rfl rfl ?_
            refine r_imul d_M_judge_58 ?_
            refine r_iload 4 d_M_judge_59 rfl ?_
            refine r_iadd d_M_judge_61 ?_
            rw [mul3, nI_add]
            refine r_ialdN (by first | with_reducible assumption | rfl) (show 3 * i + k < 36 by omega) d_M_judge_62 ?_
            rw [e91]
            refine r_aload_n 0 d_M_judge_63 rfl rfl ?_
            refine r_getR fl_M_41 (by first | with_reducible assumption | rfl) rfl d_M_judge_64 ?_
            refine r_iconst 3 d_M_judge_67 rfl ?_
            refine r_iload_n 2 d_M_judge_68 rfl rfl ?_
            refine r_imul d_M_judge_69 ?_
            refine r_iload 4 d_M_judge_70 rfl ?_
            refine r_iadd d_M_judge_72 ?_
            rw [mul3, nI_add]
            refine r_ialdN (by first | with_reducible assumption | rfl) (show 3 * i + k < 36 by omega) d_M_judge_73 ?_
            rw [e92]
            refine r_icmp_ne d_M_judge_74 (fun h74 => ?_) (fun h74 => ?_)
            · refine r_iconst 0 d_M_judge_81 rfl ?_
              refine r_istore_n 3 [_, _, _, _, _] d_M_judge_82 rfl (by decide) rfl ?_
              first | refine r_iincN 4 [_, _, _, _, _] d_M_judge_83 (by decide) rfl rfl ?_ | refine r_iinc 4 [_, _, _, _, _] (1) d_M_judge_83 (by decide) (by decide) rfl rfl ?_
              refine r_goto d_M_judge_86 ?_
              have hp : pr3 T.2.2 (μ.1 91) T.2.1 i k := hw.elim (fun z => z.2) (fun z => absurd z.1 h49)
              first
                | (have z74 : ¬ μ.1 91 (3 * i + k) = T.2.1 (3 * i + k) := h74
                   exact hkk 0 hlk (Or.inr ⟨rfl, fun z => z74 (z.2 k (by omega))⟩))
                | (have z74 : μ.1 91 (3 * i + k) = T.2.1 (3 * i + k) := h74
                   refine hkk 1 hlk (Or.inl ⟨rfl, hp.1, fun x hx => ?_⟩)
                   rcases Nat.lt_or_ge x k with y | y
                   · exact hp.2 x y
                   · rw [show x = k by omega]; exact z74)
            · refine r_iconst 1 d_M_judge_77 rfl ?_
              refine r_goto d_M_judge_78 ?_
              refine r_istore_n 3 [_, _, _, _, _] d_M_judge_82 rfl (by decide) rfl ?_
              first | refine r_iincN 4 [_, _, _, _, _] d_M_judge_83 (by decide) rfl rfl ?_ | refine r_iinc 4 [_, _, _, _, _] (1) d_M_judge_83 (by decide) (by decide) rfl rfl ?_
              refine r_goto d_M_judge_86 ?_
              have hp : pr3 T.2.2 (μ.1 91) T.2.1 i k := hw.elim (fun z => z.2) (fun z => absurd z.1 h49)
              first
                | (have z74 : ¬ μ.1 91 (3 * i + k) = T.2.1 (3 * i + k) := h74
                   exact hkk 0 hlk (Or.inr ⟨rfl, fun z => z74 (z.2 k (by omega))⟩))
                | (have z74 : μ.1 91 (3 * i + k) = T.2.1 (3 * i + k) := h74
                   refine hkk 1 hlk (Or.inl ⟨rfl, hp.1, fun x hx => ?_⟩)
                   rcases Nat.lt_or_ge x k with y | y
                   · exact hp.2 x y
                   · rw [show x = k by omega]; exact z74)
