/-! THE REFERENCE: its small functions -/
theorem bzy {P : Prop} [Decidable P] (h : P) : ¬ bz P = 0 := fun z => bz_np z h
theorem bzn {P : Prop} [Decidable P] (h : ¬ P) : bz P = 0 := bz_0.mpr h
theorem le_pred {n : Nat} {x : Int32} (hn : n < 2 ^ 31) : x ≤ nI n - 1 ↔ x < nI n := by
  cases n with
  | zero =>
    have e : nI 0 = 0 := rfl
    rw [e]
    constructor <;> intro z <;> grind
  | succ k =>
    rw [nI_succ, Int32.add_sub_cancel, ← nI_succ, Int32.le_iff_toInt_le, Int32.lt_iff_toInt_lt, nI_toInt (by omega), nI_toInt (by omega)]
    omega
set_option maxHeartbeats 400000 in
theorem c_M_in (v a b : Int32) (μ : Me) : CtI m_M_in 0 [.int v, .int a, .int b] μ (bz (a ≤ v ∧ v ≤ b)) μ := by
  refine Ct.of (ls := [.int v, .int a, .int b]) rfl (Nat.le_of_ble_eq_true rfl) rfl (fun X => ?_)
  refine r_iload_n 0 d_M_in_0 rfl rfl ?_
  refine r_iload_n 1 d_M_in_1 rfl rfl ?_
  refine r_icmp_lt d_M_in_2 (fun h2 => ?_) (fun h2 => ?_)
  · refine r_iconst 0 d_M_in_14 rfl ?_
    refine r_iret .boolean d_M_in_15 rfl (by first | decide | assumption) ?_
    exact ⟨by grind [bz], rfl⟩
  · refine r_iload_n 0 d_M_in_5 rfl rfl ?_
    refine r_iload_n 2 d_M_in_6 rfl rfl ?_
    refine r_icmp_gt d_M_in_7 (fun h7 => ?_) (fun h7 => ?_)
    · refine r_iconst 0 d_M_in_14 rfl ?_
      refine r_iret .boolean d_M_in_15 rfl (by first | decide | assumption) ?_
      exact ⟨by grind [bz], rfl⟩
    · refine r_iconst 1 d_M_in_10 rfl ?_
      refine r_goto d_M_in_11 ?_
      refine r_iret .boolean d_M_in_15 rfl (by first | decide | assumption) ?_
      exact ⟨by grind [bz], rfl⟩
set_option maxHeartbeats 400000 in
theorem c_M_isLearner {m : Nat} (hm : m ≤ 4) (l : Int32) (μ : Me) (hct : μ.1 83 0 = nI m) : CtI m_M_isLearner 1 [.ref 82, .int l] μ (bz (0 ≤ l ∧ l < nI m)) μ := by
  refine Ct.of (ls := [.ref 82, .int l]) rfl (Nat.le_of_ble_eq_true rfl) rfl (fun X => ?_)
  refine r_iload_n 1 d_M_isLearner_0 rfl rfl ?_
  refine r_iconst 0 d_M_isLearner_1 rfl ?_
  refine r_aload_n 0 d_M_isLearner_2 rfl rfl ?_
  refine r_getR fl_M_7 (by first | with_reducible assumption | rfl) rfl d_M_isLearner_3 ?_
  refine r_iconst 0 d_M_isLearner_6 rfl ?_
  refine r_ialdN (j := 0) (by first | with_reducible assumption | rfl) (by first | with_reducible assumption | omega | decide | assumption) d_M_isLearner_7 ?_
  refine r_iconst 1 d_M_isLearner_8 rfl ?_
  refine r_isub d_M_isLearner_9 ?_
  refine r_callSi (c_M_in _ _ _ _) lk_M_72 d_M_isLearner_10 rfl rfl (Nat.le_of_ble_eq_true rfl) (by decide) ?_
  refine r_iret .boolean d_M_isLearner_13 rfl bz_n ?_
  refine ⟨?_, rfl⟩
  rw [hct, bz_congr (and_congr_right (fun _ => le_pred (by omega)))]
set_option maxHeartbeats 400000 in
theorem c_M_isPair (v : Int32) (μ : Me) : CtI m_M_isPair 1 [.int v] μ (bz (0 ≤ v ∧ v < 36)) μ := by
  refine Ct.of (ls := [.int v]) rfl (Nat.le_of_ble_eq_true rfl) rfl (fun X => ?_)
  refine r_iload_n 0 d_M_isPair_0 rfl rfl ?_
  refine r_iconst 0 d_M_isPair_1 rfl ?_
  refine r_bipush (35) d_M_isPair_2 (by decide) ?_
  refine r_callSi (c_M_in _ _ _ _) lk_M_72 d_M_isPair_4 rfl rfl (Nat.le_of_ble_eq_true rfl) (by decide) ?_
  refine r_iret .boolean d_M_isPair_7 rfl bz_n ?_
  refine ⟨?_, rfl⟩
  rw [bz_congr (R := 0 ≤ v ∧ v < 36) (by grind)]
set_option maxHeartbeats 400000 in
theorem c_M_isTime (v : Int32) (μ : Me) : CtI m_M_isTime 1 [.int v] μ (bz (1 ≤ v ∧ v ≤ 9)) μ := by
  refine Ct.of (ls := [.int v]) rfl (Nat.le_of_ble_eq_true rfl) rfl (fun X => ?_)
  refine r_iload_n 0 d_M_isTime_0 rfl rfl ?_
  refine r_iconst 1 d_M_isTime_1 rfl ?_
  refine r_bipush (9) d_M_isTime_2 (by decide) ?_
  refine r_callSi (c_M_in _ _ _ _) lk_M_72 d_M_isTime_4 rfl rfl (Nat.le_of_ble_eq_true rfl) (by decide) ?_
  refine r_iret .boolean d_M_isTime_7 rfl bz_n ?_
  exact ⟨rfl, rfl⟩
set_option maxHeartbeats 400000 in
theorem c_M_isSide (v : Int32) (μ : Me) : CtI m_M_isSide 1 [.int v] μ (bz (0 ≤ v ∧ v ≤ 1)) μ := by
  refine Ct.of (ls := [.int v]) rfl (Nat.le_of_ble_eq_true rfl) rfl (fun X => ?_)
  refine r_iload_n 0 d_M_isSide_0 rfl rfl ?_
  refine r_iconst 0 d_M_isSide_1 rfl ?_
  refine r_iconst 1 d_M_isSide_2 rfl ?_
  refine r_callSi (c_M_in _ _ _ _) lk_M_72 d_M_isSide_3 rfl rfl (Nat.le_of_ble_eq_true rfl) (by decide) ?_
  refine r_iret .boolean d_M_isSide_6 rfl bz_n ?_
  exact ⟨rfl, rfl⟩
set_option maxHeartbeats 400000 in
theorem c_M_isShelf (v : Int32) (μ : Me) : CtI m_M_isShelf 1 [.int v] μ (bz (0 ≤ v ∧ v < 4)) μ := by
  refine Ct.of (ls := [.int v]) rfl (Nat.le_of_ble_eq_true rfl) rfl (fun X => ?_)
  refine r_iload_n 0 d_M_isShelf_0 rfl rfl ?_
  refine r_iconst 0 d_M_isShelf_1 rfl ?_
  refine r_iconst 3 d_M_isShelf_2 rfl ?_
  refine r_callSi (c_M_in _ _ _ _) lk_M_72 d_M_isShelf_3 rfl rfl (Nat.le_of_ble_eq_true rfl) (by decide) ?_
  refine r_iret .boolean d_M_isShelf_6 rfl bz_n ?_
  refine ⟨?_, rfl⟩
  rw [bz_congr (R := 0 ≤ v ∧ v < 4) (by grind)]
def leF : Nat → Int32 → Int32 → Option (Int32 × Int32)
  | 0, _, _ => none
  | k + 1, a, x => if 9 - a < x then leF k (a + 1) (x - (10 - a)) else some (a, x)
theorem leF_ok : ∀ p : Fin 36, leF 9 2 (nI p.val) = some (lsI p.val, grI p.val - lsI p.val) := by decide +kernel
set_option maxHeartbeats 400000 in
theorem c_M_lesser_loop (X : Nat × (Nat → Int32)) (μ : Me) (p v w : Int32) : ∀ (k : Nat) (a x : Int32), leF k a x = some (v, w) → Wa X m_M_lesser 0 4 [.int p, .int a, .int x] [] μ (fun r μ' => r = some (.int v) ∧ μ' = μ) := by
  intro k
  induction k with
  | zero => intro a x hh; rw [leF] at hh; cases hh
  | succ k ih =>
    intro a x hh
    refine r_iload_n 2 d_M_lesser_4 rfl rfl ?_
    refine r_bipush (9) d_M_lesser_5 (by decide) ?_
    refine r_iload_n 1 d_M_lesser_7 rfl rfl ?_
    refine r_isub d_M_lesser_8 ?_
    refine r_icmp_le d_M_lesser_9 (fun h9 => ?_) (fun h9 => ?_)
    · refine r_iload_n 1 d_M_lesser_25 rfl rfl ?_
      refine r_iret .int d_M_lesser_26 rfl rfl ?_
      rw [leF, if_neg (Int32.not_lt.mpr h9)] at hh
      cases hh
      exact ⟨rfl, rfl⟩
    · refine r_iload_n 2 d_M_lesser_12 rfl rfl ?_
      refine r_bipush (10) d_M_lesser_13 (by decide) ?_
      refine r_iload_n 1 d_M_lesser_15 rfl rfl ?_
      refine r_isub d_M_lesser_16 ?_
      refine r_isub d_M_lesser_17 ?_
      refine r_istore_n 2 [_, _, _] d_M_lesser_18 rfl (by decide) rfl ?_
      first | refine r_iincN 1 [_, _, _] d_M_lesser_19 (by decide) rfl rfl ?_ | refine r_iinc 1 [_, _, _] (1) d_M_lesser_19 (by decide) (by decide) rfl rfl ?_
      refine r_goto d_M_lesser_22 ?_
      refine ih _ _ ?_
      rw [leF, if_pos (Int32.not_le.mp h9)] at hh
      exact hh
set_option maxHeartbeats 400000 in
theorem c_M_lesser {p : Nat} (hp : p < 36) (μ : Me) : CtI m_M_lesser 0 [.int (nI p)] μ (lsI p) μ := by
  refine Ct.of (ls := [.int (nI p), flr, flr]) rfl (Nat.le_of_ble_eq_true rfl) rfl (fun X => ?_)
  refine r_iconst 2 d_M_lesser_0 rfl ?_
  refine r_istore_n 1 [_, _, _] d_M_lesser_1 rfl (by decide) rfl ?_
  refine r_iload_n 0 d_M_lesser_2 rfl rfl ?_
  refine r_istore_n 2 [_, _, _] d_M_lesser_3 rfl (by decide) rfl ?_
  exact c_M_lesser_loop X μ _ _ _ 9 2 (nI p) (leF_ok ⟨p, hp⟩)
set_option maxHeartbeats 400000 in
theorem c_M_greater_loop (X : Nat × (Nat → Int32)) (μ : Me) (p v w : Int32) : ∀ (k : Nat) (a x : Int32), leF k a x = some (v, w) → Wa X m_M_greater 0 4 [.int p, .int a, .int x] [] μ (fun r μ' => r = some (.int (v + w)) ∧ μ' = μ) := by
  intro k
  induction k with
  | zero => intro a x hh; rw [leF] at hh; cases hh
  | succ k ih =>
    intro a x hh
    refine r_iload_n 2 d_M_greater_4 rfl rfl ?_
    refine r_bipush (9) d_M_greater_5 (by decide) ?_
    refine r_iload_n 1 d_M_greater_7 rfl rfl ?_
    refine r_isub d_M_greater_8 ?_
    refine r_icmp_le d_M_greater_9 (fun h9 => ?_) (fun h9 => ?_)
    · refine r_iload_n 1 d_M_greater_25 rfl rfl ?_
      refine r_iload_n 2 d_M_greater_26 rfl rfl ?_
      refine r_iadd d_M_greater_27 ?_
      refine r_iret .int d_M_greater_28 rfl rfl ?_
      rw [leF, if_neg (Int32.not_lt.mpr h9)] at hh
      cases hh
      exact ⟨rfl, rfl⟩
    · refine r_iload_n 2 d_M_greater_12 rfl rfl ?_
      refine r_bipush (10) d_M_greater_13 (by decide) ?_
      refine r_iload_n 1 d_M_greater_15 rfl rfl ?_
      refine r_isub d_M_greater_16 ?_
      refine r_isub d_M_greater_17 ?_
      refine r_istore_n 2 [_, _, _] d_M_greater_18 rfl (by decide) rfl ?_
      first | refine r_iincN 1 [_, _, _] d_M_greater_19 (by decide) rfl rfl ?_ | refine r_iinc 1 [_, _, _] (1) d_M_greater_19 (by decide) (by decide) rfl rfl ?_
      refine r_goto d_M_greater_22 ?_
      refine ih _ _ ?_
      rw [leF, if_pos (Int32.not_le.mp h9)] at hh
      exact hh
set_option maxHeartbeats 400000 in
theorem c_M_greater {p : Nat} (hp : p < 36) (μ : Me) : CtI m_M_greater 0 [.int (nI p)] μ (grI p) μ := by
  refine Ct.of (ls := [.int (nI p), flr, flr]) rfl (Nat.le_of_ble_eq_true rfl) rfl (fun X => ?_)
  refine r_iconst 2 d_M_greater_0 rfl ?_
  refine r_istore_n 1 [_, _, _] d_M_greater_1 rfl (by decide) rfl ?_
  refine r_iload_n 0 d_M_greater_2 rfl rfl ?_
  refine r_istore_n 2 [_, _, _] d_M_greater_3 rfl (by decide) rfl ?_
  have lp := c_M_greater_loop X μ (nI p) _ _ 9 2 (nI p) (leF_ok ⟨p, hp⟩)
  rw [show lsI p + (grI p - lsI p) = grI p by grind] at lp
  exact lp
def pbF (a : Int32) : Nat → Int32 → Int32 → Option Int32
  | 0, _, _ => none
  | k + 1, s, i => if a ≤ i then some s else pbF a k (s + (10 - i)) (i + 1)
theorem pb_ok : ∀ i : Fin 8, ∀ j : Fin 8, (pbF (if (nI (i.val + 2)) < nI (j.val + 2) then nI (i.val + 2) else nI (j.val + 2)) 9 0 2).map (fun z => z + (if (nI (i.val + 2)) < nI (j.val + 2) then nI (j.val + 2) else nI (i.val + 2)) - (if (nI (i.val + 2)) < nI (j.val + 2) then nI (i.val + 2) else nI (j.val + 2))) = some (pairAtS (nI (i.val + 2)) (nI (j.val + 2))) := by decide +kernel
theorem t29 {x : Int32} (h : 2 ≤ x ∧ x ≤ 9) : ∃ i : Fin 8, x = nI (i.val + 2) := by
  obtain ⟨n, hn, rfl⟩ := nI_of (x := x) (by grind)
  have h1 := (nI_leI (a := 2) (b := n) (by decide) hn).mp h.1
  have h2 := (nI_leI (a := n) (b := 9) hn (by decide)).mp h.2
  exact ⟨⟨n - 2, by omega⟩, by rw [show n - 2 + 2 = n by omega]⟩
theorem pb_yes {x y : Int32} (hx : 2 ≤ x ∧ x ≤ 9) (hy : 2 ≤ y ∧ y ≤ 9) : ∃ z, pbF (if x < y then x else y) 9 0 2 = some z ∧ z + (if x < y then y else x) - (if x < y then x else y) = pairAtS x y := by
  obtain ⟨i, rfl⟩ := t29 hx
  obtain ⟨j, rfl⟩ := t29 hy
  have hk := pb_ok i j
  rw [Option.map_eq_some_iff] at hk
  exact hk
theorem pb_no {x y : Int32} (h : ¬ ((2 ≤ x ∧ x ≤ 9) ∧ 2 ≤ y ∧ y ≤ 9)) : pairAtS x y = -1 := by grind [pairAtS]
set_option maxHeartbeats 400000 in
theorem c_M_pairBy_loop (X : Nat × (Nat → Int32)) (μ : Me) (x y a b v : Int32) : ∀ (k : Nat) (s i : Int32), pbF a k s i = some v → Wa X m_M_pairBy 1 50 [.int x, .int y, .int a, .int b, .int s, .int i] [] μ (fun r μ' => r = some (.int (v + b - a)) ∧ μ' = μ) := by
  intro k
  induction k with
  | zero => intro s i hh; rw [pbF] at hh; cases hh
  | succ k ih =>
    intro s i hh
    refine r_iload 5 d_M_pairBy_50 rfl ?_
    refine r_iload_n 2 d_M_pairBy_52 rfl rfl ?_
    refine r_icmp_ge d_M_pairBy_53 (fun h53 => ?_) (fun h53 => ?_)
    · refine r_iload 4 d_M_pairBy_72 rfl ?_
      refine r_iload_n 3 d_M_pairBy_74 rfl rfl ?_
      refine r_iadd d_M_pairBy_75 ?_
      refine r_iload_n 2 d_M_pairBy_76 rfl rfl ?_
      refine r_isub d_M_pairBy_77 ?_
      refine r_iret .int d_M_pairBy_78 rfl rfl ?_
      rw [pbF, if_pos h53] at hh
      cases hh
      exact ⟨rfl, rfl⟩
    · refine r_iload 4 d_M_pairBy_56 rfl ?_
      refine r_bipush (10) d_M_pairBy_58 (by decide) ?_
      refine r_iload 5 d_M_pairBy_60 rfl ?_
      refine r_isub d_M_pairBy_62 ?_
      refine r_iadd d_M_pairBy_63 ?_
      refine r_istore 4 [_, _, _, _, _, _] d_M_pairBy_64 (by decide) rfl ?_
      first | refine r_iincN 5 [_, _, _, _, _, _] d_M_pairBy_66 (by decide) rfl rfl ?_ | refine r_iinc 5 [_, _, _, _, _, _] (1) d_M_pairBy_66 (by decide) (by decide) rfl rfl ?_
      refine r_goto d_M_pairBy_69 ?_
      refine ih _ _ ?_
      rw [pbF, if_neg h53] at hh
      exact hh
set_option maxHeartbeats 400000 in
theorem c_M_pairBy (x y : Int32) (μ : Me) : CtI m_M_pairBy 1 [.int x, .int y] μ (pairAtS x y) μ := by
  refine Ct.of (ls := [.int x, .int y, flr, flr, flr, flr]) rfl (Nat.le_of_ble_eq_true rfl) rfl (fun X => ?_)
  by_cases hP : (2 ≤ x ∧ x ≤ 9) ∧ 2 ≤ y ∧ y ≤ 9
  · obtain ⟨z, e1, e2⟩ := pb_yes hP.1 hP.2
    refine r_iload_n 0 d_M_pairBy_0 rfl rfl ?_
    refine r_iconst 2 d_M_pairBy_1 rfl ?_
    refine r_bipush (9) d_M_pairBy_2 (by decide) ?_
    refine r_callSi (c_M_in _ _ _ _) lk_M_72 d_M_pairBy_4 rfl rfl (Nat.le_of_ble_eq_true rfl) (by decide) ?_
    refine r_if_eq d_M_pairBy_7 (fun h7 => absurd h7 (bzy hP.1)) (fun h7 => ?_)
    refine r_iload_n 1 d_M_pairBy_10 rfl rfl ?_
    refine r_iconst 2 d_M_pairBy_11 rfl ?_
    refine r_bipush (9) d_M_pairBy_12 (by decide) ?_
    refine r_callSi (c_M_in _ _ _ _) lk_M_72 d_M_pairBy_14 rfl rfl (Nat.le_of_ble_eq_true rfl) (by decide) ?_
    refine r_if_ne d_M_pairBy_17 (fun h17 => ?_) (fun h17 => absurd h17 (bzy hP.2))
    refine r_iload_n 0 d_M_pairBy_22 rfl rfl ?_
    refine r_iload_n 1 d_M_pairBy_23 rfl rfl ?_
    refine r_icmp_ge d_M_pairBy_24 (fun h24 => ?_) (fun h24 => ?_)
    · refine r_iload_n 1 d_M_pairBy_31 rfl rfl ?_
      refine r_istore_n 2 [_, _, _, _, _, _] d_M_pairBy_32 rfl (by decide) rfl ?_
      refine r_iload_n 0 d_M_pairBy_33 rfl rfl ?_
      refine r_iload_n 1 d_M_pairBy_34 rfl rfl ?_
      refine r_icmp_ge d_M_pairBy_35 (fun h35 => ?_) (fun h35 => ?_)
      · refine r_iload_n 0 d_M_pairBy_42 rfl rfl ?_
        refine r_istore_n 3 [_, _, _, _, _, _] d_M_pairBy_43 rfl (by decide) rfl ?_
        refine r_iconst 0 d_M_pairBy_44 rfl ?_
        refine r_istore 4 [_, _, _, _, _, _] d_M_pairBy_45 (by decide) rfl ?_
        refine r_iconst 2 d_M_pairBy_47 rfl ?_
        refine r_istore 5 [_, _, _, _, _, _] d_M_pairBy_48 (by decide) rfl ?_
        first
          | exact absurd (Int32.not_le.mp h35) (Int32.not_lt.mpr h24)
          | exact absurd (Int32.not_le.mp h24) (Int32.not_lt.mpr h35)
          | rw [if_pos (Int32.not_le.mp h24), if_pos (Int32.not_le.mp h24)] at e2
            rw [if_pos (Int32.not_le.mp h24)] at e1
            rw [← e2]
            exact c_M_pairBy_loop X μ _ _ _ _ z 9 0 2 e1
          | rw [if_neg (Int32.not_lt.mpr h24), if_neg (Int32.not_lt.mpr h24)] at e2
            rw [if_neg (Int32.not_lt.mpr h24)] at e1
            rw [← e2]
            exact c_M_pairBy_loop X μ _ _ _ _ z 9 0 2 e1
      · refine r_iload_n 1 d_M_pairBy_38 rfl rfl ?_
        refine r_goto d_M_pairBy_39 ?_
        refine r_istore_n 3 [_, _, _, _, _, _] d_M_pairBy_43 rfl (by decide) rfl ?_
        refine r_iconst 0 d_M_pairBy_44 rfl ?_
        refine r_istore 4 [_, _, _, _, _, _] d_M_pairBy_45 (by decide) rfl ?_
        refine r_iconst 2 d_M_pairBy_47 rfl ?_
        refine r_istore 5 [_, _, _, _, _, _] d_M_pairBy_48 (by decide) rfl ?_
        first
          | exact absurd (Int32.not_le.mp h35) (Int32.not_lt.mpr h24)
          | exact absurd (Int32.not_le.mp h24) (Int32.not_lt.mpr h35)
          | rw [if_pos (Int32.not_le.mp h24), if_pos (Int32.not_le.mp h24)] at e2
            rw [if_pos (Int32.not_le.mp h24)] at e1
            rw [← e2]
            exact c_M_pairBy_loop X μ _ _ _ _ z 9 0 2 e1
          | rw [if_neg (Int32.not_lt.mpr h24), if_neg (Int32.not_lt.mpr h24)] at e2
            rw [if_neg (Int32.not_lt.mpr h24)] at e1
            rw [← e2]
            exact c_M_pairBy_loop X μ _ _ _ _ z 9 0 2 e1
    · refine r_iload_n 0 d_M_pairBy_27 rfl rfl ?_
      refine r_goto d_M_pairBy_28 ?_
      refine r_istore_n 2 [_, _, _, _, _, _] d_M_pairBy_32 rfl (by decide) rfl ?_
      refine r_iload_n 0 d_M_pairBy_33 rfl rfl ?_
      refine r_iload_n 1 d_M_pairBy_34 rfl rfl ?_
      refine r_icmp_ge d_M_pairBy_35 (fun h35 => ?_) (fun h35 => ?_)
      · refine r_iload_n 0 d_M_pairBy_42 rfl rfl ?_
        refine r_istore_n 3 [_, _, _, _, _, _] d_M_pairBy_43 rfl (by decide) rfl ?_
        refine r_iconst 0 d_M_pairBy_44 rfl ?_
        refine r_istore 4 [_, _, _, _, _, _] d_M_pairBy_45 (by decide) rfl ?_
        refine r_iconst 2 d_M_pairBy_47 rfl ?_
        refine r_istore 5 [_, _, _, _, _, _] d_M_pairBy_48 (by decide) rfl ?_
        first
          | exact absurd (Int32.not_le.mp h35) (Int32.not_lt.mpr h24)
          | exact absurd (Int32.not_le.mp h24) (Int32.not_lt.mpr h35)
          | rw [if_pos (Int32.not_le.mp h24), if_pos (Int32.not_le.mp h24)] at e2
            rw [if_pos (Int32.not_le.mp h24)] at e1
            rw [← e2]
            exact c_M_pairBy_loop X μ _ _ _ _ z 9 0 2 e1
          | rw [if_neg (Int32.not_lt.mpr h24), if_neg (Int32.not_lt.mpr h24)] at e2
            rw [if_neg (Int32.not_lt.mpr h24)] at e1
            rw [← e2]
            exact c_M_pairBy_loop X μ _ _ _ _ z 9 0 2 e1
      · refine r_iload_n 1 d_M_pairBy_38 rfl rfl ?_
        refine r_goto d_M_pairBy_39 ?_
        refine r_istore_n 3 [_, _, _, _, _, _] d_M_pairBy_43 rfl (by decide) rfl ?_
        refine r_iconst 0 d_M_pairBy_44 rfl ?_
        refine r_istore 4 [_, _, _, _, _, _] d_M_pairBy_45 (by decide) rfl ?_
        refine r_iconst 2 d_M_pairBy_47 rfl ?_
        refine r_istore 5 [_, _, _, _, _, _] d_M_pairBy_48 (by decide) rfl ?_
        first
          | exact absurd (Int32.not_le.mp h35) (Int32.not_lt.mpr h24)
          | exact absurd (Int32.not_le.mp h24) (Int32.not_lt.mpr h35)
          | rw [if_pos (Int32.not_le.mp h24), if_pos (Int32.not_le.mp h24)] at e2
            rw [if_pos (Int32.not_le.mp h24)] at e1
            rw [← e2]
            exact c_M_pairBy_loop X μ _ _ _ _ z 9 0 2 e1
          | rw [if_neg (Int32.not_lt.mpr h24), if_neg (Int32.not_lt.mpr h24)] at e2
            rw [if_neg (Int32.not_lt.mpr h24)] at e1
            rw [← e2]
            exact c_M_pairBy_loop X μ _ _ _ _ z 9 0 2 e1
  · rw [pb_no hP]
    refine r_iload_n 0 d_M_pairBy_0 rfl rfl ?_
    refine r_iconst 2 d_M_pairBy_1 rfl ?_
    refine r_bipush (9) d_M_pairBy_2 (by decide) ?_
    refine r_callSi (c_M_in _ _ _ _) lk_M_72 d_M_pairBy_4 rfl rfl (Nat.le_of_ble_eq_true rfl) (by decide) ?_
    refine r_if_eq d_M_pairBy_7 (fun h7 => ?_) (fun h7 => ?_)
    · refine r_iconst (-1) d_M_pairBy_20 rfl ?_
      refine r_iret .int d_M_pairBy_21 rfl rfl ?_
      exact ⟨rfl, rfl⟩
    · refine r_iload_n 1 d_M_pairBy_10 rfl rfl ?_
      refine r_iconst 2 d_M_pairBy_11 rfl ?_
      refine r_bipush (9) d_M_pairBy_12 (by decide) ?_
      refine r_callSi (c_M_in _ _ _ _) lk_M_72 d_M_pairBy_14 rfl rfl (Nat.le_of_ble_eq_true rfl) (by decide) ?_
      refine r_if_ne d_M_pairBy_17 (fun h17 => ?_) (fun h17 => ?_)
      · exact absurd ⟨bz_p h7, bz_p h17⟩ hP
      · refine r_iconst (-1) d_M_pairBy_20 rfl ?_
        refine r_iret .int d_M_pairBy_21 rfl rfl ?_
        exact ⟨rfl, rfl⟩
set_option maxHeartbeats 400000 in
theorem c_M_product {p : Nat} (hp : p < 36) (μ : Me) : CtI m_M_product 1 [.int (nI p)] μ (prodS p) μ := by
  refine Ct.of (ls := [.int (nI p)]) rfl (Nat.le_of_ble_eq_true rfl) rfl (fun X => ?_)
  refine r_iload_n 0 d_M_product_0 rfl rfl ?_
  refine r_callSi (c_M_lesser hp _) lk_M_76 d_M_product_1 rfl rfl (Nat.le_of_ble_eq_true rfl) (by decide) ?_
  refine r_iload_n 0 d_M_product_4 rfl rfl ?_
  refine r_callSi (c_M_greater hp _) lk_M_80 d_M_product_5 rfl rfl (Nat.le_of_ble_eq_true rfl) (by decide) ?_
  refine r_imul d_M_product_8 ?_
  refine r_iret .int d_M_product_9 rfl rfl ?_
  exact ⟨rfl, rfl⟩
set_option maxHeartbeats 400000 in
theorem c_M_firmAtFirst {p : Nat} (hp : p < 36) (μ : Me) : CtI m_M_firmAtFirst 1 [.int (nI p)] μ (firstS p) μ := by
  refine Ct.of (ls := [.int (nI p), flr, flr]) rfl (Nat.le_of_ble_eq_true rfl) rfl (fun X => ?_)
  refine r_iload_n 0 d_M_firmAtFirst_0 rfl rfl ?_
  refine r_callSi (c_M_lesser hp _) lk_M_76 d_M_firmAtFirst_1 rfl rfl (Nat.le_of_ble_eq_true rfl) (by decide) ?_
  refine r_istore_n 1 [_, _, _] d_M_firmAtFirst_4 rfl (by decide) rfl ?_
  refine r_iload_n 0 d_M_firmAtFirst_5 rfl rfl ?_
  refine r_callSi (c_M_greater hp _) lk_M_80 d_M_firmAtFirst_6 rfl rfl (Nat.le_of_ble_eq_true rfl) (by decide) ?_
  refine r_istore_n 2 [_, _, _] d_M_firmAtFirst_9 rfl (by decide) rfl ?_
  refine r_iload_n 1 d_M_firmAtFirst_10 rfl rfl ?_
  refine r_iconst 2 d_M_firmAtFirst_11 rfl ?_
  refine r_icmp_ne d_M_firmAtFirst_12 (fun h12 => ?_) (fun h12 => ?_)
  · refine r_iload_n 1 d_M_firmAtFirst_20 rfl rfl ?_
    refine r_iconst 5 d_M_firmAtFirst_21 rfl ?_
    refine r_icmp_eq d_M_firmAtFirst_22 (fun h22 => ?_) (fun h22 => ?_)
    · refine r_bipush (70) d_M_firmAtFirst_30 (by decide) ?_
      refine r_goto d_M_firmAtFirst_32 ?_
      refine r_iret .int d_M_firmAtFirst_53 rfl rfl ?_
      exact ⟨by simp_all [firstS], rfl⟩
    · refine r_iload_n 2 d_M_firmAtFirst_25 rfl rfl ?_
      refine r_iconst 5 d_M_firmAtFirst_26 rfl ?_
      refine r_icmp_ne d_M_firmAtFirst_27 (fun h27 => ?_) (fun h27 => ?_)
      · refine r_iload_n 1 d_M_firmAtFirst_35 rfl rfl ?_
        refine r_iload_n 2 d_M_firmAtFirst_36 rfl rfl ?_
        refine r_icmp_ne d_M_firmAtFirst_37 (fun h37 => ?_) (fun h37 => ?_)
        · refine r_bipush (60) d_M_firmAtFirst_45 (by decide) ?_
          refine r_iload_n 1 d_M_firmAtFirst_47 rfl rfl ?_
          refine r_iload_n 2 d_M_firmAtFirst_48 rfl rfl ?_
          refine r_imul d_M_firmAtFirst_49 ?_
          refine r_iconst 2 d_M_firmAtFirst_50 rfl ?_
          refine r_idiv d_M_firmAtFirst_51 (by first | decide | assumption) ?_
          refine r_isub d_M_firmAtFirst_52 ?_
          refine r_iret .int d_M_firmAtFirst_53 rfl rfl ?_
          exact ⟨by simp_all [firstS], rfl⟩
        · refine r_bipush (60) d_M_firmAtFirst_40 (by decide) ?_
          refine r_goto d_M_firmAtFirst_42 ?_
          refine r_iret .int d_M_firmAtFirst_53 rfl rfl ?_
          exact ⟨by simp_all [firstS], rfl⟩
      · refine r_bipush (70) d_M_firmAtFirst_30 (by decide) ?_
        refine r_goto d_M_firmAtFirst_32 ?_
        refine r_iret .int d_M_firmAtFirst_53 rfl rfl ?_
        exact ⟨by simp_all [firstS], rfl⟩
  · refine r_bipush (80) d_M_firmAtFirst_15 (by decide) ?_
    refine r_goto d_M_firmAtFirst_17 ?_
    refine r_iret .int d_M_firmAtFirst_53 rfl rfl ?_
    exact ⟨by simp_all [firstS], rfl⟩
def btS (x : Int32) : Int64 := if x < 0 then 0 else 1 <<< (x.toInt64 &&& 63)
set_option maxHeartbeats 400000 in
theorem c_M_bitOf (x : Int32) (μ : Me) : CtL m_M_bitOf 0 [.int x] μ (btS x) μ := by
  refine Ct.of (ls := [.int x]) rfl (Nat.le_of_ble_eq_true rfl) rfl (fun X => ?_)
  refine r_iload_n 0 d_M_bitOf_0 rfl rfl ?_
  refine r_if_ge d_M_bitOf_1 (fun h1 => ?_) (fun h1 => ?_)
  · refine r_lconst 1 d_M_bitOf_8 rfl ?_
    refine r_iload_n 0 d_M_bitOf_9 rfl rfl ?_
    refine r_lshl d_M_bitOf_10 ?_
    refine r_lret d_M_bitOf_11 rfl ?_
    refine ⟨?_, rfl⟩
    first
      | rw [btS, if_neg (Int32.not_lt.mpr h1)]
      | rw [btS, if_pos (Int32.not_le.mp h1)]
  · refine r_lconst 0 d_M_bitOf_4 rfl ?_
    refine r_goto d_M_bitOf_5 ?_
    refine r_lret d_M_bitOf_11 rfl ?_
    refine ⟨?_, rfl⟩
    first
      | rw [btS, if_neg (Int32.not_lt.mpr h1)]
      | rw [btS, if_pos (Int32.not_le.mp h1)]
theorem nx0 {p : Nat} : nextS p 0 = pairAtS (lsI p - 1) (grI p) := by rw [nextS, if_pos rfl]
theorem nx1 {p : Nat} : nextS p 1 = pairAtS (lsI p + 1) (grI p) := by rw [nextS, if_neg (by decide), if_pos rfl]
theorem nx2 {p : Nat} : nextS p 2 = pairAtS (lsI p) (grI p - 1) := by rw [nextS, if_neg (by decide), if_neg (by decide), if_pos rfl]
theorem nx3 {p : Nat} : nextS p 3 = pairAtS (lsI p) (grI p + 1) := by rw [nextS, if_neg (by decide), if_neg (by decide), if_neg (by decide)]
theorem ti_ok : ∀ p : Fin 36, btS (nextS p.val 0) ||| btS (nextS p.val 1) ||| btS (nextS p.val 2) ||| btS (nextS p.val 3) = tiedF p.val 4 := by decide +kernel
set_option maxHeartbeats 400000 in
theorem c_M_tiedTo {p : Nat} (hp : p < 36) (μ : Me) : CtL m_M_tiedTo 2 [.int (nI p)] μ (tiedF p 4) μ := by
  refine Ct.of (ls := [.int (nI p), flr, flr]) rfl (Nat.le_of_ble_eq_true rfl) rfl (fun X => ?_)
  refine r_iload_n 0 d_M_tiedTo_0 rfl rfl ?_
  refine r_callSi (c_M_lesser hp _) lk_M_76 d_M_tiedTo_1 rfl rfl (Nat.le_of_ble_eq_true rfl) (by decide) ?_
  refine r_istore_n 1 [_, _, _] d_M_tiedTo_4 rfl (by decide) rfl ?_
  refine r_iload_n 0 d_M_tiedTo_5 rfl rfl ?_
  refine r_callSi (c_M_greater hp _) lk_M_80 d_M_tiedTo_6 rfl rfl (Nat.le_of_ble_eq_true rfl) (by decide) ?_
  refine r_istore_n 2 [_, _, _] d_M_tiedTo_9 rfl (by decide) rfl ?_
  refine r_iload_n 1 d_M_tiedTo_10 rfl rfl ?_
  refine r_iconst 1 d_M_tiedTo_11 rfl ?_
  refine r_isub d_M_tiedTo_12 ?_
  refine r_iload_n 2 d_M_tiedTo_13 rfl rfl ?_
  refine r_callSi (c_M_pairBy _ _ _) lk_M_83 d_M_tiedTo_14 rfl rfl (Nat.le_of_ble_eq_true rfl) (by decide) ?_
  refine r_callSl (c_M_bitOf _ _) lk_M_87 d_M_tiedTo_17 rfl rfl (Nat.le_of_ble_eq_true rfl) (by decide) ?_
  refine r_iload_n 1 d_M_tiedTo_20 rfl rfl ?_
  refine r_iconst 1 d_M_tiedTo_21 rfl ?_
  refine r_iadd d_M_tiedTo_22 ?_
  refine r_iload_n 2 d_M_tiedTo_23 rfl rfl ?_
  refine r_callSi (c_M_pairBy _ _ _) lk_M_83 d_M_tiedTo_24 rfl rfl (Nat.le_of_ble_eq_true rfl) (by decide) ?_
  refine r_callSl (c_M_bitOf _ _) lk_M_87 d_M_tiedTo_27 rfl rfl (Nat.le_of_ble_eq_true rfl) (by decide) ?_
  refine r_lor d_M_tiedTo_30 ?_
  refine r_iload_n 1 d_M_tiedTo_31 rfl rfl ?_
  refine r_iload_n 2 d_M_tiedTo_32 rfl rfl ?_
  refine r_iconst 1 d_M_tiedTo_33 rfl ?_
  refine r_isub d_M_tiedTo_34 ?_
  refine r_callSi (c_M_pairBy _ _ _) lk_M_83 d_M_tiedTo_35 rfl rfl (Nat.le_of_ble_eq_true rfl) (by decide) ?_
  refine r_callSl (c_M_bitOf _ _) lk_M_87 d_M_tiedTo_38 rfl rfl (Nat.le_of_ble_eq_true rfl) (by decide) ?_
  refine r_lor d_M_tiedTo_41 ?_
  refine r_iload_n 1 d_M_tiedTo_42 rfl rfl ?_
  refine r_iload_n 2 d_M_tiedTo_43 rfl rfl ?_
  refine r_iconst 1 d_M_tiedTo_44 rfl ?_
  refine r_iadd d_M_tiedTo_45 ?_
  refine r_callSi (c_M_pairBy _ _ _) lk_M_83 d_M_tiedTo_46 rfl rfl (Nat.le_of_ble_eq_true rfl) (by decide) ?_
  refine r_callSl (c_M_bitOf _ _) lk_M_87 d_M_tiedTo_49 rfl rfl (Nat.le_of_ble_eq_true rfl) (by decide) ?_
  refine r_lor d_M_tiedTo_52 ?_
  refine r_lret d_M_tiedTo_53 rfl ?_
  refine ⟨?_, rfl⟩
  rw [← ti_ok ⟨p, hp⟩, nx0, nx1, nx2, nx3]
set_option maxHeartbeats 400000 in
theorem c_M_pair (a b : Int32) (μ : Me) : CtI m_M_pair 2 [.ref 82, .int a, .int b] μ (pairAtS a b) μ := by
  refine Ct.of (ls := [.ref 82, .int a, .int b]) rfl (Nat.le_of_ble_eq_true rfl) rfl (fun X => ?_)
  refine r_iload_n 1 d_M_pair_0 rfl rfl ?_
  refine r_iload_n 2 d_M_pair_1 rfl rfl ?_
  refine r_callSi (c_M_pairBy _ _ _) lk_M_83 d_M_pair_2 rfl rfl (Nat.le_of_ble_eq_true rfl) (by decide) ?_
  refine r_iret .int d_M_pair_5 rfl rfl ?_
  exact ⟨rfl, rfl⟩
set_option maxHeartbeats 400000 in
theorem c_M_pairOf (p w : Int32) (μ : Me) : CtI m_M_pairOf 2 [.ref 82, .int p, .int w] μ (pairOfS p w) μ := by
  refine Ct.of (ls := [.ref 82, .int p, .int w]) rfl (Nat.le_of_ble_eq_true rfl) rfl (fun X => ?_)
  by_cases hP : 0 ≤ p ∧ p < 36
  · rw [pairOfS, if_pos hP]
    obtain ⟨j, hj, rfl⟩ := pr_yes hP
    rw [cl36 hj (by decide)]
    refine r_iload_n 1 d_M_pairOf_0 rfl rfl ?_
    refine r_callSi (c_M_isPair _ _) lk_M_91 d_M_pairOf_1 rfl rfl (Nat.le_of_ble_eq_true rfl) (by decide) ?_
    refine r_if_eq d_M_pairOf_4 (fun h4 => absurd h4 (bzy hP)) (fun h4 => ?_)
    refine r_iload_n 2 d_M_pairOf_7 rfl rfl ?_
    refine r_iconst 0 d_M_pairOf_8 rfl ?_
    refine r_iconst 3 d_M_pairOf_9 rfl ?_
    refine r_callSi (c_M_in _ _ _ _) lk_M_72 d_M_pairOf_10 rfl rfl (Nat.le_of_ble_eq_true rfl) (by decide) ?_
    refine r_if_ne d_M_pairOf_13 (fun h13 => ?_) (fun h13 => ?_)
    · refine r_iload_n 2 d_M_pairOf_18 rfl rfl ?_
      refine r_if_ne d_M_pairOf_19 (fun h19 => ?_) (fun h19 => ?_)
      · refine r_iload_n 2 d_M_pairOf_29 rfl rfl ?_
        refine r_iconst 1 d_M_pairOf_30 rfl ?_
        refine r_icmp_ne d_M_pairOf_31 (fun h31 => ?_) (fun h31 => ?_)
        · refine r_iload_n 2 d_M_pairOf_41 rfl rfl ?_
          refine r_iconst 2 d_M_pairOf_42 rfl ?_
          refine r_icmp_ne d_M_pairOf_43 (fun h43 => ?_) (fun h43 => ?_)
          · refine r_iload_n 1 d_M_pairOf_53 rfl rfl ?_
            refine r_callSi (c_M_firmAtFirst hj _) lk_M_98 d_M_pairOf_54 rfl rfl (Nat.le_of_ble_eq_true rfl) (by decide) ?_
            refine r_iret .int d_M_pairOf_57 rfl rfl ?_
            refine ⟨?_, rfl⟩
            first
              | (have hh := bz_np h13; rw [if_neg (by grind), if_neg (by grind), if_neg (by grind), if_neg (by grind)])
              | (have hh := bz_p h13; rw [if_neg h19, if_neg h31, if_neg h43, if_pos (by grind)])
              | rw [if_neg h19, if_neg h31, if_pos h43]
              | rw [if_neg h19, if_pos h31]
              | rw [if_pos h19]
          · refine r_iload_n 1 d_M_pairOf_46 rfl rfl ?_
            refine r_callSi (c_M_product hj _) lk_M_95 d_M_pairOf_47 rfl rfl (Nat.le_of_ble_eq_true rfl) (by decide) ?_
            refine r_goto d_M_pairOf_50 ?_
            refine r_iret .int d_M_pairOf_57 rfl rfl ?_
            refine ⟨?_, rfl⟩
            first
              | (have hh := bz_np h13; rw [if_neg (by grind), if_neg (by grind), if_neg (by grind), if_neg (by grind)])
              | (have hh := bz_p h13; rw [if_neg h19, if_neg h31, if_neg h43, if_pos (by grind)])
              | rw [if_neg h19, if_neg h31, if_pos h43]
              | rw [if_neg h19, if_pos h31]
              | rw [if_pos h19]
        · refine r_iload_n 1 d_M_pairOf_34 rfl rfl ?_
          refine r_callSi (c_M_greater hj _) lk_M_80 d_M_pairOf_35 rfl rfl (Nat.le_of_ble_eq_true rfl) (by decide) ?_
          refine r_goto d_M_pairOf_38 ?_
          refine r_iret .int d_M_pairOf_57 rfl rfl ?_
          refine ⟨?_, rfl⟩
          first
            | (have hh := bz_np h13; rw [if_neg (by grind), if_neg (by grind), if_neg (by grind), if_neg (by grind)])
            | (have hh := bz_p h13; rw [if_neg h19, if_neg h31, if_neg h43, if_pos (by grind)])
            | rw [if_neg h19, if_neg h31, if_pos h43]
            | rw [if_neg h19, if_pos h31]
            | rw [if_pos h19]
      · refine r_iload_n 1 d_M_pairOf_22 rfl rfl ?_
        refine r_callSi (c_M_lesser hj _) lk_M_76 d_M_pairOf_23 rfl rfl (Nat.le_of_ble_eq_true rfl) (by decide) ?_
        refine r_goto d_M_pairOf_26 ?_
        refine r_iret .int d_M_pairOf_57 rfl rfl ?_
        refine ⟨?_, rfl⟩
        first
          | (have hh := bz_np h13; rw [if_neg (by grind), if_neg (by grind), if_neg (by grind), if_neg (by grind)])
          | (have hh := bz_p h13; rw [if_neg h19, if_neg h31, if_neg h43, if_pos (by grind)])
          | rw [if_neg h19, if_neg h31, if_pos h43]
          | rw [if_neg h19, if_pos h31]
          | rw [if_pos h19]
    · refine r_iconst (-1) d_M_pairOf_16 rfl ?_
      refine r_iret .int d_M_pairOf_17 rfl rfl ?_
      refine ⟨?_, rfl⟩
      first
        | (have hh := bz_np h13; rw [if_neg (by grind), if_neg (by grind), if_neg (by grind), if_neg (by grind)])
        | (have hh := bz_p h13; rw [if_neg h19, if_neg h31, if_neg h43, if_pos (by grind)])
        | rw [if_neg h19, if_neg h31, if_pos h43]
        | rw [if_neg h19, if_pos h31]
        | rw [if_pos h19]
  · rw [pairOfS, if_neg hP]
    refine r_iload_n 1 d_M_pairOf_0 rfl rfl ?_
    refine r_callSi (c_M_isPair _ _) lk_M_91 d_M_pairOf_1 rfl rfl (Nat.le_of_ble_eq_true rfl) (by decide) ?_
    refine r_if_eq d_M_pairOf_4 (fun h4 => ?_) (fun h4 => absurd (bzn hP) h4)
    refine r_iconst (-1) d_M_pairOf_16 rfl ?_
    refine r_iret .int d_M_pairOf_17 rfl rfl ?_
    exact ⟨rfl, rfl⟩
set_option maxHeartbeats 400000 in
theorem c_M_tied_no (p : Int32) (hp : ¬ (0 ≤ p ∧ p < 36)) (μ : Me) : CtL m_M_tied 3 [.ref 82, .int p] μ (-1) μ := by
  refine Ct.of (ls := [.ref 82, .int p]) rfl (Nat.le_of_ble_eq_true rfl) rfl (fun X => ?_)
  refine r_iload_n 1 d_M_tied_0 rfl rfl ?_
  refine r_callSi (c_M_isPair _ _) lk_M_91 d_M_tied_1 rfl rfl (Nat.le_of_ble_eq_true rfl) (by decide) ?_
  refine r_if_eq d_M_tied_4 (fun h4 => ?_) (fun h4 => absurd (bzn hp) h4)
  refine r_ldc2 kc_M_104 d_M_tied_14 ?_
  refine r_lret d_M_tied_17 rfl ?_
  exact ⟨rfl, rfl⟩
set_option maxHeartbeats 400000 in
theorem c_M_tied (p : Nat) (hp : p < 36) (μ : Me) : CtL m_M_tied 3 [.ref 82, .int (nI p)] μ (tiedF p 4) μ := by
  refine Ct.of (ls := [.ref 82, .int (nI p)]) rfl (Nat.le_of_ble_eq_true rfl) rfl (fun X => ?_)
  refine r_iload_n 1 d_M_tied_0 rfl rfl ?_
  refine r_callSi (c_M_isPair _ _) lk_M_91 d_M_tied_1 rfl rfl (Nat.le_of_ble_eq_true rfl) (by decide) ?_
  refine r_if_eq d_M_tied_4 (fun h4 => absurd h4 (bzy ⟨nI_pos' (by omega), nI_lt hp (by decide)⟩)) (fun h4 => ?_)
  refine r_iload_n 1 d_M_tied_7 rfl rfl ?_
  refine r_callSl (c_M_tiedTo hp _) lk_M_101 d_M_tied_8 rfl rfl (Nat.le_of_ble_eq_true rfl) (by decide) ?_
  refine r_goto d_M_tied_11 ?_
  refine r_lret d_M_tied_17 rfl ?_
  exact ⟨rfl, rfl⟩
