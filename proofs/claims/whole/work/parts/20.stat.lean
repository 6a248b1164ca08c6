/-! the class's static functions: what they answer, word for word -/
def pairAtS (a b : Int32) : Int32 :=
  if (if b < a then b else a) < 2 ∨ 9 < (if a < b then b else a) then -1 else ((if b < a then b else a) - 2) * (19 - (if b < a then b else a)) / 2 + (if a < b then b else a) - (if b < a then b else a)
def lsI (p : Nat) : Int32 := (sta 0).getD p 0
def grI (p : Nat) : Int32 := (sta 1).getD p 0
def nextS (p : Nat) (side : Int32) : Int32 := if side = 0 then pairAtS (lsI p - 1) (grI p) else if side = 1 then pairAtS (lsI p + 1) (grI p) else if side = 2 then pairAtS (lsI p) (grI p - 1) else pairAtS (lsI p) (grI p + 1)
def firstS (p : Nat) : Int32 := if lsI p = 2 then 80 else if lsI p = 5 ∨ grI p = 5 then 70 else if lsI p = grI p then 60 else 60 - lsI p * grI p / 2
def prodS (p : Nat) : Int32 := lsI p * grI p
def toldS (f : Int32) : Int32 := if f + (100 - f) / 6 + 1 < 100 then f + (100 - f) / 6 + 1 else 100
set_option maxHeartbeats 400000 in
theorem c_S_isWithin (v m : Int32) (μ : Me) : CtI m_S_isWithin 0 [.int v, .int m] μ (bz (0 ≤ v ∧ v ≤ m)) μ := by
  refine Ct.of (ls := [.int v, .int m]) rfl (Nat.le_of_ble_eq_true rfl) rfl (fun X => ?_)
  refine r_iload_n 0 d_S_isWithin_0 rfl rfl ?_
  refine r_if_lt d_S_isWithin_1 (fun h1 => ?_) (fun h1 => ?_)
  · refine r_iconst 0 d_S_isWithin_13 rfl ?_
    refine r_iret .boolean d_S_isWithin_14 rfl (by first | decide | assumption) ?_
    exact ⟨by grind [bz], rfl⟩
  · refine r_iload_n 0 d_S_isWithin_4 rfl rfl ?_
    refine r_iload_n 1 d_S_isWithin_5 rfl rfl ?_
    refine r_icmp_gt d_S_isWithin_6 (fun h6 => ?_) (fun h6 => ?_)
    · refine r_iconst 0 d_S_isWithin_13 rfl ?_
      refine r_iret .boolean d_S_isWithin_14 rfl (by first | decide | assumption) ?_
      exact ⟨by grind [bz], rfl⟩
    · refine r_iconst 1 d_S_isWithin_9 rfl ?_
      refine r_goto d_S_isWithin_10 ?_
      refine r_iret .boolean d_S_isWithin_14 rfl (by first | decide | assumption) ?_
      exact ⟨by grind [bz], rfl⟩
set_option maxHeartbeats 400000 in
theorem c_S_isPair (v : Int32) (μ : Me) : CtI m_S_isPair 0 [.int v] μ (bz (0 ≤ v ∧ v < 36)) μ := by
  refine Ct.of (ls := [.int v]) rfl (Nat.le_of_ble_eq_true rfl) rfl (fun X => ?_)
  refine r_iload_n 0 d_S_isPair_0 rfl rfl ?_
  refine r_if_lt d_S_isPair_1 (fun h1 => ?_) (fun h1 => ?_)
  · refine r_iconst 0 d_S_isPair_14 rfl ?_
    refine r_iret .boolean d_S_isPair_15 rfl (by first | decide | assumption) ?_
    exact ⟨by grind [bz], rfl⟩
  · refine r_iload_n 0 d_S_isPair_4 rfl rfl ?_
    refine r_bipush (36) d_S_isPair_5 (by decide) ?_
    refine r_icmp_ge d_S_isPair_7 (fun h7 => ?_) (fun h7 => ?_)
    · refine r_iconst 0 d_S_isPair_14 rfl ?_
      refine r_iret .boolean d_S_isPair_15 rfl (by first | decide | assumption) ?_
      exact ⟨by grind [bz], rfl⟩
    · refine r_iconst 1 d_S_isPair_10 rfl ?_
      refine r_goto d_S_isPair_11 ?_
      refine r_iret .boolean d_S_isPair_15 rfl (by first | decide | assumption) ?_
      exact ⟨by grind [bz], rfl⟩
set_option maxHeartbeats 400000 in
theorem c_S_isSeconds (v : Int32) (μ : Me) : CtI m_S_isSeconds 0 [.int v] μ (bz (1 ≤ v ∧ v ≤ 9)) μ := by
  refine Ct.of (ls := [.int v]) rfl (Nat.le_of_ble_eq_true rfl) rfl (fun X => ?_)
  refine r_iload_n 0 d_S_isSeconds_0 rfl rfl ?_
  refine r_iconst 1 d_S_isSeconds_1 rfl ?_
  refine r_icmp_lt d_S_isSeconds_2 (fun h2 => ?_) (fun h2 => ?_)
  · refine r_iconst 0 d_S_isSeconds_15 rfl ?_
    refine r_iret .boolean d_S_isSeconds_16 rfl (by first | decide | assumption) ?_
    exact ⟨by grind [bz], rfl⟩
  · refine r_iload_n 0 d_S_isSeconds_5 rfl rfl ?_
    refine r_bipush (9) d_S_isSeconds_6 (by decide) ?_
    refine r_icmp_gt d_S_isSeconds_8 (fun h8 => ?_) (fun h8 => ?_)
    · refine r_iconst 0 d_S_isSeconds_15 rfl ?_
      refine r_iret .boolean d_S_isSeconds_16 rfl (by first | decide | assumption) ?_
      exact ⟨by grind [bz], rfl⟩
    · refine r_iconst 1 d_S_isSeconds_11 rfl ?_
      refine r_goto d_S_isSeconds_12 ?_
      refine r_iret .boolean d_S_isSeconds_16 rfl (by first | decide | assumption) ?_
      exact ⟨by grind [bz], rfl⟩
set_option maxHeartbeats 400000 in
theorem c_S_isSheet (v : Int32) (μ : Me) : CtI m_S_isSheet 0 [.int v] μ (bz (0 ≤ v ∧ v < 4)) μ := by
  refine Ct.of (ls := [.int v]) rfl (Nat.le_of_ble_eq_true rfl) rfl (fun X => ?_)
  refine r_iload_n 0 d_S_isSheet_0 rfl rfl ?_
  refine r_if_lt d_S_isSheet_1 (fun h1 => ?_) (fun h1 => ?_)
  · refine r_iconst 0 d_S_isSheet_13 rfl ?_
    refine r_iret .boolean d_S_isSheet_14 rfl (by first | decide | assumption) ?_
    exact ⟨by grind [bz], rfl⟩
  · refine r_iload_n 0 d_S_isSheet_4 rfl rfl ?_
    refine r_iconst 4 d_S_isSheet_5 rfl ?_
    refine r_icmp_ge d_S_isSheet_6 (fun h6 => ?_) (fun h6 => ?_)
    · refine r_iconst 0 d_S_isSheet_13 rfl ?_
      refine r_iret .boolean d_S_isSheet_14 rfl (by first | decide | assumption) ?_
      exact ⟨by grind [bz], rfl⟩
    · refine r_iconst 1 d_S_isSheet_9 rfl ?_
      refine r_goto d_S_isSheet_10 ?_
      refine r_iret .boolean d_S_isSheet_14 rfl (by first | decide | assumption) ?_
      exact ⟨by grind [bz], rfl⟩
set_option maxHeartbeats 400000 in
theorem c_S_isShelf (v : Int32) (μ : Me) : CtI m_S_isShelf 0 [.int v] μ (bz (0 ≤ v ∧ v < 4)) μ := by
  refine Ct.of (ls := [.int v]) rfl (Nat.le_of_ble_eq_true rfl) rfl (fun X => ?_)
  refine r_iload_n 0 d_S_isShelf_0 rfl rfl ?_
  refine r_if_lt d_S_isShelf_1 (fun h1 => ?_) (fun h1 => ?_)
  · refine r_iconst 0 d_S_isShelf_13 rfl ?_
    refine r_iret .boolean d_S_isShelf_14 rfl (by first | decide | assumption) ?_
    exact ⟨by grind [bz], rfl⟩
  · refine r_iload_n 0 d_S_isShelf_4 rfl rfl ?_
    refine r_iconst 4 d_S_isShelf_5 rfl ?_
    refine r_icmp_ge d_S_isShelf_6 (fun h6 => ?_) (fun h6 => ?_)
    · refine r_iconst 0 d_S_isShelf_13 rfl ?_
      refine r_iret .boolean d_S_isShelf_14 rfl (by first | decide | assumption) ?_
      exact ⟨by grind [bz], rfl⟩
    · refine r_iconst 1 d_S_isShelf_9 rfl ?_
      refine r_goto d_S_isShelf_10 ?_
      refine r_iret .boolean d_S_isShelf_14 rfl (by first | decide | assumption) ?_
      exact ⟨by grind [bz], rfl⟩
set_option maxHeartbeats 400000 in
theorem c_S_pairAt (a b : Int32) (μ : Me) : CtI m_S_pairAt 1 [.int a, .int b] μ (pairAtS a b) μ := by
  refine Ct.of (ls := [.int a, .int b, flr, flr]) rfl (Nat.le_of_ble_eq_true rfl) rfl (fun X => ?_)
  refine r_iload_n 0 d_S_pairAt_0 rfl rfl ?_
  refine r_iload_n 1 d_S_pairAt_1 rfl rfl ?_
  refine r_min mm_S_327 d_S_pairAt_2 (Nat.le_of_ble_eq_true rfl) (by decide) ?_
  refine r_istore_n 2 [_, _, _, _] d_S_pairAt_5 rfl (by decide) rfl ?_
  refine r_iload_n 0 d_S_pairAt_6 rfl rfl ?_
  refine r_iload_n 1 d_S_pairAt_7 rfl rfl ?_
  refine r_max mm_S_332 d_S_pairAt_8 (Nat.le_of_ble_eq_true rfl) (by decide) ?_
  refine r_istore_n 3 [_, _, _, _] d_S_pairAt_11 rfl (by decide) rfl ?_
  refine r_iload_n 2 d_S_pairAt_12 rfl rfl ?_
  refine r_iconst 2 d_S_pairAt_13 rfl ?_
  refine r_icmp_lt d_S_pairAt_14 (fun h14 => ?_) (fun h14 => ?_)
  · refine r_iconst (-1) d_S_pairAt_23 rfl ?_
    refine r_iret .int d_S_pairAt_24 rfl rfl ?_
    exact ⟨by grind [pairAtS], rfl⟩
  · refine r_iload_n 3 d_S_pairAt_17 rfl rfl ?_
    refine r_bipush (9) d_S_pairAt_18 (by decide) ?_
    refine r_icmp_le d_S_pairAt_20 (fun h20 => ?_) (fun h20 => ?_)
    · refine r_iload_n 2 d_S_pairAt_25 rfl rfl ?_
      refine r_iconst 2 d_S_pairAt_26 rfl ?_
      refine r_isub d_S_pairAt_27 ?_
      refine r_bipush (19) d_S_pairAt_28 (by decide) ?_
      refine r_iload_n 2 d_S_pairAt_30 rfl rfl ?_
      refine r_isub d_S_pairAt_31 ?_
      refine r_imul d_S_pairAt_32 ?_
      refine r_iconst 2 d_S_pairAt_33 rfl ?_
      refine r_idiv d_S_pairAt_34 (by first | decide | assumption) ?_
      refine r_iload_n 3 d_S_pairAt_35 rfl rfl ?_
      refine r_iadd d_S_pairAt_36 ?_
      refine r_iload_n 2 d_S_pairAt_37 rfl rfl ?_
      refine r_isub d_S_pairAt_38 ?_
      refine r_iret .int d_S_pairAt_39 rfl rfl ?_
      exact ⟨by grind [pairAtS], rfl⟩
    · refine r_iconst (-1) d_S_pairAt_23 rfl ?_
      refine r_iret .int d_S_pairAt_24 rfl rfl ?_
      exact ⟨by grind [pairAtS], rfl⟩
set_option maxHeartbeats 400000 in
theorem c_S_product (p : Nat) (hp : p < 36) (μ : Me) : CtI m_S_product 0 [.int (nI p)] μ (prodS p) μ := by
  refine Ct.of (ls := [.int (nI p)]) rfl (Nat.le_of_ble_eq_true rfl) rfl (fun X => ?_)
  refine r_gets 0 (by decide) fs_S_148 d_S_product_0 ?_
  refine r_iload_n 0 d_S_product_3 rfl rfl ?_
  refine r_taldN (t := 0) (by decide) (by first | with_reducible assumption | omega | decide | assumption) d_S_product_4 ?_
  refine r_gets 1 (by decide) fs_S_151 d_S_product_5 ?_
  refine r_iload_n 0 d_S_product_8 rfl rfl ?_
  refine r_taldN (t := 1) (by decide) (by first | with_reducible assumption | omega | decide | assumption) d_S_product_9 ?_
  refine r_imul d_S_product_10 ?_
  refine r_iret .int d_S_product_11 rfl rfl ?_
  exact ⟨by simp only [prodS, lsI, grI], rfl⟩
set_option maxHeartbeats 400000 in
theorem c_S_nextDoor (p : Nat) (hp : p < 36) (side : Int32) (μ : Me) : CtI m_S_nextDoor 2 [.int (nI p), .int side] μ (nextS p side) μ := by
  refine Ct.of (ls := [.int (nI p), .int side, flr, flr]) rfl (Nat.le_of_ble_eq_true rfl) rfl (fun X => ?_)
  refine r_gets 0 (by decide) fs_S_148 d_S_nextDoor_0 ?_
  refine r_iload_n 0 d_S_nextDoor_3 rfl rfl ?_
  refine r_taldN (t := 0) (by decide) (by first | with_reducible assumption | omega | decide | assumption) d_S_nextDoor_4 ?_
  refine r_istore_n 2 [_, _, _, _] d_S_nextDoor_5 rfl (by decide) rfl ?_
  refine r_gets 1 (by decide) fs_S_151 d_S_nextDoor_6 ?_
  refine r_iload_n 0 d_S_nextDoor_9 rfl rfl ?_
  refine r_taldN (t := 1) (by decide) (by first | with_reducible assumption | omega | decide | assumption) d_S_nextDoor_10 ?_
  refine r_istore_n 3 [_, _, _, _] d_S_nextDoor_11 rfl (by decide) rfl ?_
  refine r_iload_n 1 d_S_nextDoor_12 rfl rfl ?_
  refine r_ts d_S_nextDoor_13 (List.forall_mem_cons.mpr ⟨fun h13 => ?_, List.forall_mem_cons.mpr ⟨fun h13 => ?_, List.forall_mem_cons.mpr ⟨fun h13 => ?_, fun _ h => absurd h List.not_mem_nil⟩⟩⟩) (fun h13 => ?_)
  · refine r_iload_n 2 d_S_nextDoor_40 rfl rfl ?_
    refine r_iconst 1 d_S_nextDoor_41 rfl ?_
    refine r_isub d_S_nextDoor_42 ?_
    refine r_iload_n 3 d_S_nextDoor_43 rfl rfl ?_
    refine r_callSi (c_S_pairAt _ _ _) lk_S_141 d_S_nextDoor_44 rfl rfl (Nat.le_of_ble_eq_true rfl) (by decide) ?_
    refine r_iret .int d_S_nextDoor_47 rfl rfl ?_
    exact ⟨by simp_all [nextS, lsI, grI], rfl⟩
  · refine r_iload_n 2 d_S_nextDoor_48 rfl rfl ?_
    refine r_iconst 1 d_S_nextDoor_49 rfl ?_
    refine r_iadd d_S_nextDoor_50 ?_
    refine r_iload_n 3 d_S_nextDoor_51 rfl rfl ?_
    refine r_callSi (c_S_pairAt _ _ _) lk_S_141 d_S_nextDoor_52 rfl rfl (Nat.le_of_ble_eq_true rfl) (by decide) ?_
    refine r_iret .int d_S_nextDoor_55 rfl rfl ?_
    exact ⟨by simp_all [nextS, lsI, grI], rfl⟩
  · refine r_iload_n 2 d_S_nextDoor_56 rfl rfl ?_
    refine r_iload_n 3 d_S_nextDoor_57 rfl rfl ?_
    refine r_iconst 1 d_S_nextDoor_58 rfl ?_
    refine r_isub d_S_nextDoor_59 ?_
    refine r_callSi (c_S_pairAt _ _ _) lk_S_141 d_S_nextDoor_60 rfl rfl (Nat.le_of_ble_eq_true rfl) (by decide) ?_
    refine r_iret .int d_S_nextDoor_63 rfl rfl ?_
    exact ⟨by simp_all [nextS, lsI, grI], rfl⟩
  · refine r_iload_n 2 d_S_nextDoor_64 rfl rfl ?_
    refine r_iload_n 3 d_S_nextDoor_65 rfl rfl ?_
    refine r_iconst 1 d_S_nextDoor_66 rfl ?_
    refine r_iadd d_S_nextDoor_67 ?_
    refine r_callSi (c_S_pairAt _ _ _) lk_S_141 d_S_nextDoor_68 rfl rfl (Nat.le_of_ble_eq_true rfl) (by decide) ?_
    refine r_iret .int d_S_nextDoor_71 rfl rfl ?_
    exact ⟨by simp_all [nextS, lsI, grI], rfl⟩
set_option maxHeartbeats 400000 in
theorem c_S_firmAtFirst (p : Nat) (hp : p < 36) (μ : Me) : CtI m_S_firmAtFirst 0 [.int (nI p)] μ (firstS p) μ := by
  refine Ct.of (ls := [.int (nI p), flr, flr]) rfl (Nat.le_of_ble_eq_true rfl) rfl (fun X => ?_)
  refine r_gets 0 (by decide) fs_S_148 d_S_firmAtFirst_0 ?_
  refine r_iload_n 0 d_S_firmAtFirst_3 rfl rfl ?_
  refine r_taldN (t := 0) (by decide) (by first | with_reducible assumption | omega | decide | assumption) d_S_firmAtFirst_4 ?_
  refine r_istore_n 1 [_, _, _] d_S_firmAtFirst_5 rfl (by decide) rfl ?_
  refine r_gets 1 (by decide) fs_S_151 d_S_firmAtFirst_6 ?_
  refine r_iload_n 0 d_S_firmAtFirst_9 rfl rfl ?_
  refine r_taldN (t := 1) (by decide) (by first | with_reducible assumption | omega | decide | assumption) d_S_firmAtFirst_10 ?_
  refine r_istore_n 2 [_, _, _] d_S_firmAtFirst_11 rfl (by decide) rfl ?_
  refine r_iload_n 1 d_S_firmAtFirst_12 rfl rfl ?_
  refine r_iconst 2 d_S_firmAtFirst_13 rfl ?_
  refine r_icmp_ne d_S_firmAtFirst_14 (fun h14 => ?_) (fun h14 => ?_)
  · refine r_iload_n 1 d_S_firmAtFirst_20 rfl rfl ?_
    refine r_iconst 5 d_S_firmAtFirst_21 rfl ?_
    refine r_icmp_eq d_S_firmAtFirst_22 (fun h22 => ?_) (fun h22 => ?_)
    · refine r_bipush (70) d_S_firmAtFirst_30 (by decide) ?_
      refine r_iret .int d_S_firmAtFirst_32 rfl rfl ?_
      exact ⟨by simp_all [firstS, lsI, grI], rfl⟩
    · refine r_iload_n 2 d_S_firmAtFirst_25 rfl rfl ?_
      refine r_iconst 5 d_S_firmAtFirst_26 rfl ?_
      refine r_icmp_ne d_S_firmAtFirst_27 (fun h27 => ?_) (fun h27 => ?_)
      · refine r_iload_n 1 d_S_firmAtFirst_33 rfl rfl ?_
        refine r_iload_n 2 d_S_firmAtFirst_34 rfl rfl ?_
        refine r_icmp_ne d_S_firmAtFirst_35 (fun h35 => ?_) (fun h35 => ?_)
        · refine r_bipush (60) d_S_firmAtFirst_41 (by decide) ?_
          refine r_iload_n 1 d_S_firmAtFirst_43 rfl rfl ?_
          refine r_iload_n 2 d_S_firmAtFirst_44 rfl rfl ?_
          refine r_imul d_S_firmAtFirst_45 ?_
          refine r_iconst 2 d_S_firmAtFirst_46 rfl ?_
          refine r_idiv d_S_firmAtFirst_47 (by first | decide | assumption) ?_
          refine r_isub d_S_firmAtFirst_48 ?_
          refine r_iret .int d_S_firmAtFirst_49 rfl rfl ?_
          exact ⟨by simp_all [firstS, lsI, grI], rfl⟩
        · refine r_bipush (60) d_S_firmAtFirst_38 (by decide) ?_
          refine r_iret .int d_S_firmAtFirst_40 rfl rfl ?_
          exact ⟨by simp_all [firstS, lsI, grI], rfl⟩
      · refine r_bipush (70) d_S_firmAtFirst_30 (by decide) ?_
        refine r_iret .int d_S_firmAtFirst_32 rfl rfl ?_
        exact ⟨by simp_all [firstS, lsI, grI], rfl⟩
  · refine r_bipush (80) d_S_firmAtFirst_17 (by decide) ?_
    refine r_iret .int d_S_firmAtFirst_19 rfl rfl ?_
    exact ⟨by simp_all [firstS, lsI, grI], rfl⟩
set_option maxHeartbeats 400000 in
theorem c_S_firmWhenTold (f : Int32) (μ : Me) : CtI m_S_firmWhenTold 1 [.int f] μ (toldS f) μ := by
  refine Ct.of (ls := [.int f]) rfl (Nat.le_of_ble_eq_true rfl) rfl (fun X => ?_)
  refine r_bipush (100) d_S_firmWhenTold_0 (by decide) ?_
  refine r_iload_n 0 d_S_firmWhenTold_2 rfl rfl ?_
  refine r_bipush (100) d_S_firmWhenTold_3 (by decide) ?_
  refine r_iload_n 0 d_S_firmWhenTold_5 rfl rfl ?_
  refine r_isub d_S_firmWhenTold_6 ?_
  refine r_bipush (6) d_S_firmWhenTold_7 (by decide) ?_
  refine r_idiv d_S_firmWhenTold_9 (by first | decide | assumption) ?_
  refine r_iadd d_S_firmWhenTold_10 ?_
  refine r_iconst 1 d_S_firmWhenTold_11 rfl ?_
  refine r_iadd d_S_firmWhenTold_12 ?_
  refine r_min mm_S_327 d_S_firmWhenTold_13 (Nat.le_of_ble_eq_true rfl) (by decide) ?_
  refine r_iret .int d_S_firmWhenTold_16 rfl rfl ?_
  exact ⟨by simp only [toldS], rfl⟩
set_option maxHeartbeats 400000 in
theorem c_S_pair (a b : Int32) (μ : Me) : CtI m_S_pair 2 [.ref 0, .int a, .int b] μ (pairAtS a b) μ := by
  refine Ct.of (ls := [.ref 0, .int a, .int b]) rfl (Nat.le_of_ble_eq_true rfl) rfl (fun X => ?_)
  refine r_iload_n 1 d_S_pair_0 rfl rfl ?_
  refine r_iload_n 2 d_S_pair_1 rfl rfl ?_
  refine r_callSi (c_S_pairAt _ _ _) lk_S_141 d_S_pair_2 rfl rfl (Nat.le_of_ble_eq_true rfl) (by decide) ?_
  refine r_iret .int d_S_pair_5 rfl rfl ?_
  exact ⟨rfl, rfl⟩
