/-! the reference: shelves, acts -/
set_option maxHeartbeats 400000 in
theorem c_M_isHeld {m : Nat} (hm : m ≤ 4) (w n : Int32) (μ : Me) (hct : μ.1 83 0 = nI m) : CtI m_M_isHeld 2 [.ref 82, .int w, .int n] μ (bz ((w = 0 ∧ 0 ≤ n ∧ n < nI m) ∨ (w = 1 ∧ 0 ≤ n ∧ n < 4) ∨ w = 2)) μ := by
  refine Ct.of (ls := [.ref 82, .int w, .int n]) rfl (Nat.le_of_ble_eq_true rfl) rfl (fun X => ?_)
  refine r_iload_n 1 d_M_isHeld_0 rfl rfl ?_
  refine r_if_ne d_M_isHeld_1 (fun h1 => ?_) (fun h1 => ?_)
  · refine r_iload_n 1 d_M_isHeld_12 rfl rfl ?_
    refine r_iconst 1 d_M_isHeld_13 rfl ?_
    refine r_icmp_ne d_M_isHeld_14 (fun h14 => ?_) (fun h14 => ?_)
    · refine r_iload_n 1 d_M_isHeld_24 rfl rfl ?_
      refine r_iconst 2 d_M_isHeld_25 rfl ?_
      refine r_icmp_ne d_M_isHeld_26 (fun h26 => ?_) (fun h26 => ?_)
      · refine r_iconst 0 d_M_isHeld_33 rfl ?_
        refine r_iret .boolean d_M_isHeld_34 rfl (by first | decide | exact bz_n) ?_
        refine ⟨?_, rfl⟩
        first
          | (have z1 : w = 0 := h1; rw [bz_congr (R := (w = 0 ∧ 0 ≤ n ∧ n < nI m) ∨ (w = 1 ∧ 0 ≤ n ∧ n < 4) ∨ w = 2) ⟨fun z => Or.inl ⟨z1, z⟩, fun z => z.elim (fun y => y.2) (fun y => y.elim (fun x => absurd (z1.symm.trans x.1) (by decide)) (fun x => absurd (z1.symm.trans x) (by decide)))⟩])
          | (have z1 : w = 1 := h14; rw [bz_congr (R := (w = 0 ∧ 0 ≤ n ∧ n < nI m) ∨ (w = 1 ∧ 0 ≤ n ∧ n < 4) ∨ w = 2) ⟨fun z => Or.inr (Or.inl ⟨z1, z⟩), fun z => z.elim (fun y => absurd (z1.symm.trans y.1) (by decide)) (fun y => y.elim (fun x => x.2) (fun x => absurd (z1.symm.trans x) (by decide)))⟩])
          | (have z1 : w = 2 := h26; rw [← bz_t (Or.inr (Or.inr z1))])
          | (have z26 : ¬ w = 2 := h26; rw [← bz_f (fun z => z.elim (fun y => h1 y.1) (fun y => y.elim (fun x => h14 x.1) z26))])
      · refine r_iconst 1 d_M_isHeld_29 rfl ?_
        refine r_goto d_M_isHeld_30 ?_
        refine r_iret .boolean d_M_isHeld_34 rfl (by first | decide | exact bz_n) ?_
        refine ⟨?_, rfl⟩
        first
          | (have z1 : w = 0 := h1; rw [bz_congr (R := (w = 0 ∧ 0 ≤ n ∧ n < nI m) ∨ (w = 1 ∧ 0 ≤ n ∧ n < 4) ∨ w = 2) ⟨fun z => Or.inl ⟨z1, z⟩, fun z => z.elim (fun y => y.2) (fun y => y.elim (fun x => absurd (z1.symm.trans x.1) (by decide)) (fun x => absurd (z1.symm.trans x) (by decide)))⟩])
          | (have z1 : w = 1 := h14; rw [bz_congr (R := (w = 0 ∧ 0 ≤ n ∧ n < nI m) ∨ (w = 1 ∧ 0 ≤ n ∧ n < 4) ∨ w = 2) ⟨fun z => Or.inr (Or.inl ⟨z1, z⟩), fun z => z.elim (fun y => absurd (z1.symm.trans y.1) (by decide)) (fun y => y.elim (fun x => x.2) (fun x => absurd (z1.symm.trans x) (by decide)))⟩])
          | (have z1 : w = 2 := h26; rw [← bz_t (Or.inr (Or.inr z1))])
          | (have z26 : ¬ w = 2 := h26; rw [← bz_f (fun z => z.elim (fun y => h1 y.1) (fun y => y.elim (fun x => h14 x.1) z26))])
    · refine r_iload_n 2 d_M_isHeld_17 rfl rfl ?_
      refine r_callSi (c_M_isShelf _ _) lk_M_308 d_M_isHeld_18 rfl rfl (Nat.le_of_ble_eq_true rfl) (by decide) ?_
      refine r_goto d_M_isHeld_21 ?_
      refine r_iret .boolean d_M_isHeld_34 rfl (by first | decide | exact bz_n) ?_
      refine ⟨?_, rfl⟩
      first
        | (have z1 : w = 0 := h1; rw [bz_congr (R := (w = 0 ∧ 0 ≤ n ∧ n < nI m) ∨ (w = 1 ∧ 0 ≤ n ∧ n < 4) ∨ w = 2) ⟨fun z => Or.inl ⟨z1, z⟩, fun z => z.elim (fun y => y.2) (fun y => y.elim (fun x => absurd (z1.symm.trans x.1) (by decide)) (fun x => absurd (z1.symm.trans x) (by decide)))⟩])
        | (have z1 : w = 1 := h14; rw [bz_congr (R := (w = 0 ∧ 0 ≤ n ∧ n < nI m) ∨ (w = 1 ∧ 0 ≤ n ∧ n < 4) ∨ w = 2) ⟨fun z => Or.inr (Or.inl ⟨z1, z⟩), fun z => z.elim (fun y => absurd (z1.symm.trans y.1) (by decide)) (fun y => y.elim (fun x => x.2) (fun x => absurd (z1.symm.trans x) (by decide)))⟩])
        | (have z1 : w = 2 := h26; rw [← bz_t (Or.inr (Or.inr z1))])
        | (have z26 : ¬ w = 2 := h26; rw [← bz_f (fun z => z.elim (fun y => h1 y.1) (fun y => y.elim (fun x => h14 x.1) z26))])
  · refine r_aload_n 0 d_M_isHeld_4 rfl rfl ?_
    refine r_iload_n 2 d_M_isHeld_5 rfl rfl ?_
    refine r_callVi (c_M_isLearner hm _ _ hct) lk_M_115 (by first | with_reducible assumption | rfl) d_M_isHeld_6 rfl rfl (Nat.le_of_ble_eq_true rfl) (by decide) ?_
    refine r_goto d_M_isHeld_9 ?_
    refine r_iret .boolean d_M_isHeld_34 rfl (by first | decide | exact bz_n) ?_
    refine ⟨?_, rfl⟩
    first
      | (have z1 : w = 0 := h1; rw [bz_congr (R := (w = 0 ∧ 0 ≤ n ∧ n < nI m) ∨ (w = 1 ∧ 0 ≤ n ∧ n < 4) ∨ w = 2) ⟨fun z => Or.inl ⟨z1, z⟩, fun z => z.elim (fun y => y.2) (fun y => y.elim (fun x => absurd (z1.symm.trans x.1) (by decide)) (fun x => absurd (z1.symm.trans x) (by decide)))⟩])
      | (have z1 : w = 1 := h14; rw [bz_congr (R := (w = 0 ∧ 0 ≤ n ∧ n < nI m) ∨ (w = 1 ∧ 0 ≤ n ∧ n < 4) ∨ w = 2) ⟨fun z => Or.inr (Or.inl ⟨z1, z⟩), fun z => z.elim (fun y => absurd (z1.symm.trans y.1) (by decide)) (fun y => y.elim (fun x => x.2) (fun x => absurd (z1.symm.trans x) (by decide)))⟩])
      | (have z1 : w = 2 := h26; rw [← bz_t (Or.inr (Or.inr z1))])
      | (have z26 : ¬ w = 2 := h26; rw [← bz_f (fun z => z.elim (fun y => h1 y.1) (fun y => y.elim (fun x => h14 x.1) z26))])
set_option maxHeartbeats 400000 in
theorem c_M_shelf_bad {m : Nat} (hm : m ≤ 4) (s w n : Int32) (μ : Me) (hct : μ.1 83 0 = nI m) (hP : ¬ ((0 ≤ s ∧ s < 4) ∧ ((w = 0 ∧ 0 ≤ n ∧ n < nI m) ∨ (w = 1 ∧ 0 ≤ n ∧ n < 4) ∨ w = 2))) : CtI m_M_shelf 3 [.ref 82, .int s, .int w, .int n] μ (-1) μ := by
  refine Ct.of (ls := [.ref 82, .int s, .int w, .int n]) rfl (Nat.le_of_ble_eq_true rfl) rfl (fun X => ?_)
  refine r_iload_n 1 d_M_shelf_0 rfl rfl ?_
  refine r_callSi (c_M_isShelf _ _) lk_M_308 d_M_shelf_1 rfl rfl (Nat.le_of_ble_eq_true rfl) (by decide) ?_
  refine r_if_eq d_M_shelf_4 (fun h4 => ?_) (fun h4 => ?_)
  · refine r_iconst (-1) d_M_shelf_16 rfl ?_
    refine r_iret .int d_M_shelf_17 rfl rfl ?_
    exact ⟨rfl, rfl⟩
  · refine r_aload_n 0 d_M_shelf_7 rfl rfl ?_
    refine r_iload_n 2 d_M_shelf_8 rfl rfl ?_
    refine r_iload_n 3 d_M_shelf_9 rfl rfl ?_
    refine r_callVi (c_M_isHeld hm _ _ _ hct) lk_M_314 (by first | with_reducible assumption | rfl) d_M_shelf_10 rfl rfl (Nat.le_of_ble_eq_true rfl) (by decide) ?_
    refine r_if_ne d_M_shelf_13 (fun h13 => ?_) (fun h13 => ?_)
    · exact absurd ⟨bz_p h4, bz_p h13⟩ hP
    · refine r_iconst (-1) d_M_shelf_16 rfl ?_
      refine r_iret .int d_M_shelf_17 rfl rfl ?_
      exact ⟨rfl, rfl⟩
def hdU (μ : Me) (j : Nat) (a b c : Int32) : Me := uI (uI (uI μ 96 j a) 97 j b) 98 j c
set_option maxHeartbeats 400000 in
theorem c_M_shelf_0 {j m q : Nat} (hj : j < 4) (hm : m ≤ 4) (hq : q < m) (μ : Me) (hct : μ.1 83 0 = nI m) : CtI m_M_shelf 3 [.ref 82, .int (nI j), .int 0, .int (nI q)] μ 1 (hdU μ j 0 (nI q) 0) := by
  refine Ct.of (ls := [.ref 82, .int (nI j), .int 0, .int (nI q)]) rfl (Nat.le_of_ble_eq_true rfl) rfl (fun X => ?_)
  refine r_iload_n 1 d_M_shelf_0 rfl rfl ?_
  refine r_callSi (c_M_isShelf _ _) lk_M_308 d_M_shelf_1 rfl rfl (Nat.le_of_ble_eq_true rfl) (by decide) ?_
  refine r_if_eq d_M_shelf_4 (fun h4 => absurd h4 (bzy (f4_yes hj))) (fun h4 => ?_)
  refine r_aload_n 0 d_M_shelf_7 rfl rfl ?_
  refine r_iload_n 2 d_M_shelf_8 rfl rfl ?_
  refine r_iload_n 3 d_M_shelf_9 rfl rfl ?_
  refine r_callVi (c_M_isHeld hm _ _ _ hct) lk_M_314 (by first | with_reducible assumption | rfl) d_M_shelf_10 rfl rfl (Nat.le_of_ble_eq_true rfl) (by decide) ?_
  refine r_if_ne d_M_shelf_13 (fun h13 => ?_) (fun h13 => absurd h13 (bzy (Or.inl ⟨rfl, nIb hq hm⟩)))
  refine r_aload_n 0 d_M_shelf_18 rfl rfl ?_
  refine r_getR fl_M_54 (by first | with_reducible assumption | rfl) rfl d_M_shelf_19 ?_
  refine r_iload_n 1 d_M_shelf_22 rfl rfl ?_
  refine r_iload_n 2 d_M_shelf_23 rfl rfl ?_
  refine r_iconst 2 d_M_shelf_24 rfl ?_
  refine r_icmp_eq d_M_shelf_25 (fun h25 => absurd h25 (by decide)) (fun h25 => ?_)
  refine r_iload_n 2 d_M_shelf_28 rfl rfl ?_
  refine r_iconst 1 d_M_shelf_29 rfl ?_
  refine r_icmp_ne d_M_shelf_30 (fun h30 => ?_) (fun h30 => absurd h30 (by decide))
  refine r_iload_n 2 d_M_shelf_46 rfl rfl ?_
  refine r_iastN (by first | with_reducible assumption | rfl) (by first | with_reducible assumption | omega | decide | assumption) d_M_shelf_47 ?_
  refine r_aload_n 0 d_M_shelf_48 rfl rfl ?_
  refine r_getR fl_M_57 (by first | with_reducible assumption | rfl) rfl d_M_shelf_49 ?_
  refine r_iload_n 1 d_M_shelf_52 rfl rfl ?_
  refine r_iload_n 2 d_M_shelf_53 rfl rfl ?_
  refine r_iconst 1 d_M_shelf_54 rfl ?_
  refine r_icmp_ne d_M_shelf_55 (fun h55 => ?_) (fun h55 => absurd h55 (by decide))
  refine r_iload_n 3 d_M_shelf_67 rfl rfl ?_
  refine r_iastN (by first | with_reducible assumption | rfl) (by first | with_reducible assumption | omega | decide | assumption) d_M_shelf_68 ?_
  refine r_aload_n 0 d_M_shelf_69 rfl rfl ?_
  refine r_getR fl_M_60 (by first | with_reducible assumption | rfl) rfl d_M_shelf_70 ?_
  refine r_iload_n 1 d_M_shelf_73 rfl rfl ?_
  refine r_iload_n 2 d_M_shelf_74 rfl rfl ?_
  refine r_iconst 1 d_M_shelf_75 rfl ?_
  refine r_icmp_ne d_M_shelf_76 (fun h76 => ?_) (fun h76 => absurd h76 (by decide))
  refine r_iconst 0 d_M_shelf_88 rfl ?_
  refine r_iastN (by first | with_reducible assumption | rfl) (by first | with_reducible assumption | omega | decide | assumption) d_M_shelf_89 ?_
  refine r_iconst 1 d_M_shelf_90 rfl ?_
  refine r_iret .int d_M_shelf_91 rfl rfl ?_
  exact ⟨rfl, rfl⟩
set_option maxHeartbeats 400000 in
theorem c_M_shelf_1 {j m q : Nat} (hj : j < 4) (hm : m ≤ 4) (hq : q < 4) (μ : Me) (hct : μ.1 83 0 = nI m) : CtI m_M_shelf 3 [.ref 82, .int (nI j), .int 1, .int (nI q)] μ 1 (hdU μ j (if μ.1 93 q < 0 then -1 else 1) (μ.1 93 q) (μ.1 94 q)) := by
  refine Ct.of (ls := [.ref 82, .int (nI j), .int 1, .int (nI q)]) rfl (Nat.le_of_ble_eq_true rfl) rfl (fun X => ?_)
  by_cases hs : μ.1 93 q < 0
  · rw [if_pos hs]
    refine r_iload_n 1 d_M_shelf_0 rfl rfl ?_
    refine r_callSi (c_M_isShelf _ _) lk_M_308 d_M_shelf_1 rfl rfl (Nat.le_of_ble_eq_true rfl) (by decide) ?_
    refine r_if_eq d_M_shelf_4 (fun h4 => absurd h4 (bzy (f4_yes hj))) (fun h4 => ?_)
    refine r_aload_n 0 d_M_shelf_7 rfl rfl ?_
    refine r_iload_n 2 d_M_shelf_8 rfl rfl ?_
    refine r_iload_n 3 d_M_shelf_9 rfl rfl ?_
    refine r_callVi (c_M_isHeld hm _ _ _ hct) lk_M_314 (by first | with_reducible assumption | rfl) d_M_shelf_10 rfl rfl (Nat.le_of_ble_eq_true rfl) (by decide) ?_
    refine r_if_ne d_M_shelf_13 (fun h13 => ?_) (fun h13 => absurd h13 (bzy (Or.inr (Or.inl ⟨rfl, f4_yes hq⟩))))
    refine r_aload_n 0 d_M_shelf_18 rfl rfl ?_
    refine r_getR fl_M_54 (by first | with_reducible assumption | rfl) rfl d_M_shelf_19 ?_
    refine r_iload_n 1 d_M_shelf_22 rfl rfl ?_
    refine r_iload_n 2 d_M_shelf_23 rfl rfl ?_
    refine r_iconst 2 d_M_shelf_24 rfl ?_
    refine r_icmp_eq d_M_shelf_25 (fun h25 => absurd h25 (by decide)) (fun h25 => ?_)
    refine r_iload_n 2 d_M_shelf_28 rfl rfl ?_
    refine r_iconst 1 d_M_shelf_29 rfl ?_
    refine r_icmp_ne d_M_shelf_30 (fun h30 => absurd rfl h30) (fun h30 => ?_)
    refine r_aload_n 0 d_M_shelf_33 rfl rfl ?_
    refine r_getR fl_M_44 (by first | with_reducible assumption | rfl) rfl d_M_shelf_34 ?_
    refine r_iload_n 3 d_M_shelf_37 rfl rfl ?_
    refine r_ialdN (by first | with_reducible assumption | rfl) (by first | with_reducible assumption | omega | decide | assumption) d_M_shelf_38 ?_
    refine r_if_ge d_M_shelf_39 (fun h39 => absurd h39 (Int32.not_le.mpr hs)) (fun h39 => ?_)
    refine r_iconst (-1) d_M_shelf_42 rfl ?_
    refine r_goto d_M_shelf_43 ?_
    refine r_iastN (by first | with_reducible assumption | rfl) (by first | with_reducible assumption | omega | decide | assumption) d_M_shelf_47 ?_
    refine r_aload_n 0 d_M_shelf_48 rfl rfl ?_
    refine r_getR fl_M_57 (by first | with_reducible assumption | rfl) rfl d_M_shelf_49 ?_
    refine r_iload_n 1 d_M_shelf_52 rfl rfl ?_
    refine r_iload_n 2 d_M_shelf_53 rfl rfl ?_
    refine r_iconst 1 d_M_shelf_54 rfl ?_
    refine r_icmp_ne d_M_shelf_55 (fun h55 => absurd rfl h55) (fun h55 => ?_)
    refine r_aload_n 0 d_M_shelf_58 rfl rfl ?_
    refine r_getR fl_M_44 (by first | with_reducible assumption | rfl) rfl d_M_shelf_59 ?_
    refine r_iload_n 3 d_M_shelf_62 rfl rfl ?_
    refine r_ialdN (by first | with_reducible assumption | rfl) (by first | with_reducible assumption | omega | decide | assumption) d_M_shelf_63 ?_
    refine r_goto d_M_shelf_64 ?_
    refine r_iastN (by first | with_reducible assumption | rfl) (by first | with_reducible assumption | omega | decide | assumption) d_M_shelf_68 ?_
    refine r_aload_n 0 d_M_shelf_69 rfl rfl ?_
    refine r_getR fl_M_60 (by first | with_reducible assumption | rfl) rfl d_M_shelf_70 ?_
    refine r_iload_n 1 d_M_shelf_73 rfl rfl ?_
    refine r_iload_n 2 d_M_shelf_74 rfl rfl ?_
    refine r_iconst 1 d_M_shelf_75 rfl ?_
    refine r_icmp_ne d_M_shelf_76 (fun h76 => absurd rfl h76) (fun h76 => ?_)
    refine r_aload_n 0 d_M_shelf_79 rfl rfl ?_
    refine r_getR fl_M_47 (by first | with_reducible assumption | rfl) rfl d_M_shelf_80 ?_
    refine r_iload_n 3 d_M_shelf_83 rfl rfl ?_
    refine r_ialdN (by first | with_reducible assumption | rfl) (by first | with_reducible assumption | omega | decide | assumption) d_M_shelf_84 ?_
    refine r_goto d_M_shelf_85 ?_
    refine r_iastN (by first | with_reducible assumption | rfl) (by first | with_reducible assumption | omega | decide | assumption) d_M_shelf_89 ?_
    refine r_iconst 1 d_M_shelf_90 rfl ?_
    refine r_iret .int d_M_shelf_91 rfl rfl ?_
    exact ⟨rfl, rfl⟩
  · rw [if_neg hs]
    refine r_iload_n 1 d_M_shelf_0 rfl rfl ?_
    refine r_callSi (c_M_isShelf _ _) lk_M_308 d_M_shelf_1 rfl rfl (Nat.le_of_ble_eq_true rfl) (by decide) ?_
    refine r_if_eq d_M_shelf_4 (fun h4 => absurd h4 (bzy (f4_yes hj))) (fun h4 => ?_)
    refine r_aload_n 0 d_M_shelf_7 rfl rfl ?_
    refine r_iload_n 2 d_M_shelf_8 rfl rfl ?_
    refine r_iload_n 3 d_M_shelf_9 rfl rfl ?_
    refine r_callVi (c_M_isHeld hm _ _ _ hct) lk_M_314 (by first | with_reducible assumption | rfl) d_M_shelf_10 rfl rfl (Nat.le_of_ble_eq_true rfl) (by decide) ?_
    refine r_if_ne d_M_shelf_13 (fun h13 => ?_) (fun h13 => absurd h13 (bzy (Or.inr (Or.inl ⟨rfl, f4_yes hq⟩))))
    refine r_aload_n 0 d_M_shelf_18 rfl rfl ?_
    refine r_getR fl_M_54 (by first | with_reducible assumption | rfl) rfl d_M_shelf_19 ?_
    refine r_iload_n 1 d_M_shelf_22 rfl rfl ?_
    refine r_iload_n 2 d_M_shelf_23 rfl rfl ?_
    refine r_iconst 2 d_M_shelf_24 rfl ?_
    refine r_icmp_eq d_M_shelf_25 (fun h25 => absurd h25 (by decide)) (fun h25 => ?_)
    refine r_iload_n 2 d_M_shelf_28 rfl rfl ?_
    refine r_iconst 1 d_M_shelf_29 rfl ?_
    refine r_icmp_ne d_M_shelf_30 (fun h30 => absurd rfl h30) (fun h30 => ?_)
    refine r_aload_n 0 d_M_shelf_33 rfl rfl ?_
    refine r_getR fl_M_44 (by first | with_reducible assumption | rfl) rfl d_M_shelf_34 ?_
    refine r_iload_n 3 d_M_shelf_37 rfl rfl ?_
    refine r_ialdN (by first | with_reducible assumption | rfl) (by first | with_reducible assumption | omega | decide | assumption) d_M_shelf_38 ?_
    refine r_if_ge d_M_shelf_39 (fun h39 => ?_) (fun h39 => absurd (Int32.not_lt.mp hs) h39)
    refine r_iload_n 2 d_M_shelf_46 rfl rfl ?_
    refine r_iastN (by first | with_reducible assumption | rfl) (by first | with_reducible assumption | omega | decide | assumption) d_M_shelf_47 ?_
    refine r_aload_n 0 d_M_shelf_48 rfl rfl ?_
    refine r_getR fl_M_57 (by first | with_reducible assumption | rfl) rfl d_M_shelf_49 ?_
    refine r_iload_n 1 d_M_shelf_52 rfl rfl ?_
    refine r_iload_n 2 d_M_shelf_53 rfl rfl ?_
    refine r_iconst 1 d_M_shelf_54 rfl ?_
    refine r_icmp_ne d_M_shelf_55 (fun h55 => absurd rfl h55) (fun h55 => ?_)
    refine r_aload_n 0 d_M_shelf_58 rfl rfl ?_
    refine r_getR fl_M_44 (by first | with_reducible assumption | rfl) rfl d_M_shelf_59 ?_
    refine r_iload_n 3 d_M_shelf_62 rfl rfl ?_
    refine r_ialdN (by first | with_reducible assumption | rfl) (by first | with_reducible assumption | omega | decide | assumption) d_M_shelf_63 ?_
    refine r_goto d_M_shelf_64 ?_
    refine r_iastN (by first | with_reducible assumption | rfl) (by first | with_reducible assumption | omega | decide | assumption) d_M_shelf_68 ?_
    refine r_aload_n 0 d_M_shelf_69 rfl rfl ?_
    refine r_getR fl_M_60 (by first | with_reducible assumption | rfl) rfl d_M_shelf_70 ?_
    refine r_iload_n 1 d_M_shelf_73 rfl rfl ?_
    refine r_iload_n 2 d_M_shelf_74 rfl rfl ?_
    refine r_iconst 1 d_M_shelf_75 rfl ?_
    refine r_icmp_ne d_M_shelf_76 (fun h76 => absurd rfl h76) (fun h76 => ?_)
    refine r_aload_n 0 d_M_shelf_79 rfl rfl ?_
    refine r_getR fl_M_47 (by first | with_reducible assumption | rfl) rfl d_M_shelf_80 ?_
    refine r_iload_n 3 d_M_shelf_83 rfl rfl ?_
    refine r_ialdN (by first | with_reducible assumption | rfl) (by first | with_reducible assumption | omega | decide | assumption) d_M_shelf_84 ?_
    refine r_goto d_M_shelf_85 ?_
    refine r_iastN (by first | with_reducible assumption | rfl) (by first | with_reducible assumption | omega | decide | assumption) d_M_shelf_89 ?_
    refine r_iconst 1 d_M_shelf_90 rfl ?_
    refine r_iret .int d_M_shelf_91 rfl rfl ?_
    exact ⟨rfl, rfl⟩
set_option maxHeartbeats 400000 in
theorem c_M_shelf_2 {j m : Nat} (hj : j < 4) (hm : m ≤ 4) (n : Int32) (μ : Me) (hct : μ.1 83 0 = nI m) : CtI m_M_shelf 3 [.ref 82, .int (nI j), .int 2, .int n] μ 1 (hdU μ j (-1) n 0) := by
  refine Ct.of (ls := [.ref 82, .int (nI j), .int 2, .int n]) rfl (Nat.le_of_ble_eq_true rfl) rfl (fun X => ?_)
  refine r_iload_n 1 d_M_shelf_0 rfl rfl ?_
  refine r_callSi (c_M_isShelf _ _) lk_M_308 d_M_shelf_1 rfl rfl (Nat.le_of_ble_eq_true rfl) (by decide) ?_
  refine r_if_eq d_M_shelf_4 (fun h4 => absurd h4 (bzy (f4_yes hj))) (fun h4 => ?_)
  refine r_aload_n 0 d_M_shelf_7 rfl rfl ?_
  refine r_iload_n 2 d_M_shelf_8 rfl rfl ?_
  refine r_iload_n 3 d_M_shelf_9 rfl rfl ?_
  refine r_callVi (c_M_isHeld hm _ _ _ hct) lk_M_314 (by first | with_reducible assumption | rfl) d_M_shelf_10 rfl rfl (Nat.le_of_ble_eq_true rfl) (by decide) ?_
  refine r_if_ne d_M_shelf_13 (fun h13 => ?_) (fun h13 => absurd h13 (bzy (Or.inr (Or.inr rfl))))
  refine r_aload_n 0 d_M_shelf_18 rfl rfl ?_
  refine r_getR fl_M_54 (by first | with_reducible assumption | rfl) rfl d_M_shelf_19 ?_
  refine r_iload_n 1 d_M_shelf_22 rfl rfl ?_
  refine r_iload_n 2 d_M_shelf_23 rfl rfl ?_
  refine r_iconst 2 d_M_shelf_24 rfl ?_
  refine r_icmp_eq d_M_shelf_25 (fun h25 => ?_) (fun h25 => absurd rfl h25)
  refine r_iconst (-1) d_M_shelf_42 rfl ?_
  refine r_goto d_M_shelf_43 ?_
  refine r_iastN (by first | with_reducible assumption | rfl) (by first | with_reducible assumption | omega | decide | assumption) d_M_shelf_47 ?_
  refine r_aload_n 0 d_M_shelf_48 rfl rfl ?_
  refine r_getR fl_M_57 (by first | with_reducible assumption | rfl) rfl d_M_shelf_49 ?_
  refine r_iload_n 1 d_M_shelf_52 rfl rfl ?_
  refine r_iload_n 2 d_M_shelf_53 rfl rfl ?_
  refine r_iconst 1 d_M_shelf_54 rfl ?_
  refine r_icmp_ne d_M_shelf_55 (fun h55 => ?_) (fun h55 => absurd h55 (by decide))
  refine r_iload_n 3 d_M_shelf_67 rfl rfl ?_
  refine r_iastN (by first | with_reducible assumption | rfl) (by first | with_reducible assumption | omega | decide | assumption) d_M_shelf_68 ?_
  refine r_aload_n 0 d_M_shelf_69 rfl rfl ?_
  refine r_getR fl_M_60 (by first | with_reducible assumption | rfl) rfl d_M_shelf_70 ?_
  refine r_iload_n 1 d_M_shelf_73 rfl rfl ?_
  refine r_iload_n 2 d_M_shelf_74 rfl rfl ?_
  refine r_iconst 1 d_M_shelf_75 rfl ?_
  refine r_icmp_ne d_M_shelf_76 (fun h76 => ?_) (fun h76 => absurd h76 (by decide))
  refine r_iconst 0 d_M_shelf_88 rfl ?_
  refine r_iastN (by first | with_reducible assumption | rfl) (by first | with_reducible assumption | omega | decide | assumption) d_M_shelf_89 ?_
  refine r_iconst 1 d_M_shelf_90 rfl ?_
  refine r_iret .int d_M_shelf_91 rfl rfl ?_
  exact ⟨rfl, rfl⟩
def knS3 (g : Nat → Int32) (m : Nat) (h n : Int32) : Int32 := if h = 0 then (if 0 ≤ n ∧ n < nI m then kM g 0 n.toNatClampNeg else -1) else if h < 0 then -1 else 9
set_option maxHeartbeats 400000 in
theorem c_M_kindOn {j m : Nat} (hj : j < 4) (hm : m ≤ 4) (μ : Me) (hct : μ.1 83 0 = nI m) (hat : μ.1 82 1 = nI 0) : CtI m_M_kindOn 2 [.ref 82, .int (nI j)] μ (knS3 (μ.1 83) m (μ.1 96 j) (μ.1 97 j)) μ := by
  refine Ct.of (ls := [.ref 82, .int (nI j)]) rfl (Nat.le_of_ble_eq_true rfl) rfl (fun X => ?_)
  by_cases h0 : μ.1 96 j = 0
  · rw [knS3, if_pos h0]
    by_cases hn : 0 ≤ μ.1 97 j ∧ μ.1 97 j < nI m
    · rw [if_pos hn]
      obtain ⟨q, hq, eq⟩ := lr_yes hm hn
      refine r_aload_n 0 d_M_kindOn_0 rfl rfl ?_
      refine r_getR fl_M_54 (by first | with_reducible assumption | rfl) rfl d_M_kindOn_1 ?_
      refine r_iload_n 1 d_M_kindOn_4 rfl rfl ?_
      refine r_ialdN (by first | with_reducible assumption | rfl) (by first | with_reducible assumption | omega | decide | assumption) d_M_kindOn_5 ?_
      refine r_if_eq d_M_kindOn_6 (fun h6 => ?_) (fun h6 => absurd h0 h6)
      refine r_aload_n 0 d_M_kindOn_25 rfl rfl ?_
      refine r_aload_n 0 d_M_kindOn_26 rfl rfl ?_
      refine r_getR fl_M_57 (by first | with_reducible assumption | rfl) rfl d_M_kindOn_27 ?_
      refine r_iload_n 1 d_M_kindOn_30 rfl rfl ?_
      refine r_ialdN (by first | with_reducible assumption | rfl) (by first | with_reducible assumption | omega | decide | assumption) d_M_kindOn_31 ?_
      refine r_callVi (c_M_isLearner hm _ _ hct) lk_M_115 (by first | with_reducible assumption | rfl) d_M_kindOn_32 rfl rfl (Nat.le_of_ble_eq_true rfl) (by decide) ?_
      refine r_if_eq d_M_kindOn_35 (fun h35 => absurd h35 (bzy hn)) (fun h35 => ?_)
      refine r_aload_n 0 d_M_kindOn_38 rfl rfl ?_
      refine r_aload_n 0 d_M_kindOn_39 rfl rfl ?_
      refine r_getR fl_M_57 (by first | with_reducible assumption | rfl) rfl d_M_kindOn_40 ?_
      refine r_iload_n 1 d_M_kindOn_43 rfl rfl ?_
      refine r_ialdN (by first | with_reducible assumption | rfl) (by first | with_reducible assumption | omega | decide | assumption) d_M_kindOn_44 ?_
      rw [eq]
      refine r_callVi (c_M_kindOf (A := 0) (by decide) (show q < 4 by omega) _ hat) lk_M_118 (by first | with_reducible assumption | rfl) d_M_kindOn_45 rfl rfl (Nat.le_of_ble_eq_true rfl) (by decide) ?_
      refine r_goto d_M_kindOn_48 ?_
      refine r_iret .int d_M_kindOn_52 rfl rfl ?_
      exact ⟨by rw [cl36 (show q < 4 by omega) (by decide)], rfl⟩
    · rw [if_neg hn]
      refine r_aload_n 0 d_M_kindOn_0 rfl rfl ?_
      refine r_getR fl_M_54 (by first | with_reducible assumption | rfl) rfl d_M_kindOn_1 ?_
      refine r_iload_n 1 d_M_kindOn_4 rfl rfl ?_
      refine r_ialdN (by first | with_reducible assumption | rfl) (by first | with_reducible assumption | omega | decide | assumption) d_M_kindOn_5 ?_
      refine r_if_eq d_M_kindOn_6 (fun h6 => ?_) (fun h6 => absurd h0 h6)
      refine r_aload_n 0 d_M_kindOn_25 rfl rfl ?_
      refine r_aload_n 0 d_M_kindOn_26 rfl rfl ?_
      refine r_getR fl_M_57 (by first | with_reducible assumption | rfl) rfl d_M_kindOn_27 ?_
      refine r_iload_n 1 d_M_kindOn_30 rfl rfl ?_
      refine r_ialdN (by first | with_reducible assumption | rfl) (by first | with_reducible assumption | omega | decide | assumption) d_M_kindOn_31 ?_
      refine r_callVi (c_M_isLearner hm _ _ hct) lk_M_115 (by first | with_reducible assumption | rfl) d_M_kindOn_32 rfl rfl (Nat.le_of_ble_eq_true rfl) (by decide) ?_
      refine r_if_eq d_M_kindOn_35 (fun h35 => ?_) (fun h35 => absurd (bzn hn) h35)
      refine r_iconst (-1) d_M_kindOn_51 rfl ?_
      refine r_iret .int d_M_kindOn_52 rfl rfl ?_
      exact ⟨rfl, rfl⟩
  · rw [knS3, if_neg h0]
    refine r_aload_n 0 d_M_kindOn_0 rfl rfl ?_
    refine r_getR fl_M_54 (by first | with_reducible assumption | rfl) rfl d_M_kindOn_1 ?_
    refine r_iload_n 1 d_M_kindOn_4 rfl rfl ?_
    refine r_ialdN (by first | with_reducible assumption | rfl) (by first | with_reducible assumption | omega | decide | assumption) d_M_kindOn_5 ?_
    refine r_if_eq d_M_kindOn_6 (fun h6 => absurd h6 h0) (fun h6 => ?_)
    refine r_aload_n 0 d_M_kindOn_9 rfl rfl ?_
    refine r_getR fl_M_54 (by first | with_reducible assumption | rfl) rfl d_M_kindOn_10 ?_
    refine r_iload_n 1 d_M_kindOn_13 rfl rfl ?_
    refine r_ialdN (by first | with_reducible assumption | rfl) (by first | with_reducible assumption | omega | decide | assumption) d_M_kindOn_14 ?_
    refine r_if_ge d_M_kindOn_15 (fun h15 => ?_) (fun h15 => ?_)
    · refine r_bipush (9) d_M_kindOn_22 (by decide) ?_
      refine r_iret .int d_M_kindOn_24 rfl rfl ?_
      refine ⟨?_, rfl⟩
      first
        | rw [if_neg (Int32.not_lt.mpr h15)]
        | rw [if_pos (Int32.not_le.mp h15)]
    · refine r_iconst (-1) d_M_kindOn_18 rfl ?_
      refine r_goto d_M_kindOn_19 ?_
      refine r_iret .int d_M_kindOn_24 rfl rfl ?_
      refine ⟨?_, rfl⟩
      first
        | rw [if_neg (Int32.not_lt.mpr h15)]
        | rw [if_pos (Int32.not_le.mp h15)]
set_option maxHeartbeats 400000 in
theorem c_M_isUnder {k a : Nat} (hk : k < 6) (ha : a < 6) (μ : Me) : CtI m_M_isUnder 0 [.int (nI k), .int (nI a)] μ (bz (undB k a = true)) μ := by
  refine Ct.of (ls := [.int (nI k), .int (nI a)]) rfl (Nat.le_of_ble_eq_true rfl) rfl (fun X => ?_)
  have ea : ∀ b, b < 10 → (nI a = nI b ↔ a = b) := fun b hb => nI_eq (by omega) (by omega)
  have ek : ∀ b, b < 10 → (nI k = nI b ↔ k = b) := fun b hb => nI_eq (by omega) (by omega)
  have a0 : nI a = 0 ↔ a = 0 := ea 0 (by decide)
  have a1 : nI a = 1 ↔ a = 1 := ea 1 (by decide)
  have a2 : nI a = 2 ↔ a = 2 := ea 2 (by decide)
  have k3 : nI k = 3 ↔ k = 3 := ek 3 (by decide)
  have k4 : nI k = 4 ↔ k = 4 := ek 4 (by decide)
  have ak : nI a = nI k ↔ a = k := ea k (by omega)
  have und : undB k a = true ↔ (a = 0 ∨ a = k ∨ (a = 1 ∧ k = 4) ∨ (a = 2 ∧ k = 3)) := by
    simp only [undB, Bool.or_eq_true, Bool.and_eq_true, beq_iff_eq]
    omega
  rw [bz_congr und]
  refine r_iload_n 1 d_M_isUnder_0 rfl rfl ?_
  refine r_if_eq d_M_isUnder_1 (fun h1 => ?_) (fun h1 => ?_)
  · refine r_iconst 1 d_M_isUnder_29 rfl ?_
    refine r_goto d_M_isUnder_30 ?_
    refine r_iret .boolean d_M_isUnder_34 rfl (by first | decide | assumption) ?_
    refine ⟨?_, rfl⟩
    simp only [a0, a1, a2, k3, k4, ak] at *
    first
      | (exfalso; omega)
      | rw [← bz_t (by omega)]
      | rw [← bz_f (by omega)]
  · refine r_iload_n 1 d_M_isUnder_4 rfl rfl ?_
    refine r_iload_n 0 d_M_isUnder_5 rfl rfl ?_
    refine r_icmp_eq d_M_isUnder_6 (fun h6 => ?_) (fun h6 => ?_)
    · refine r_iconst 1 d_M_isUnder_29 rfl ?_
      refine r_goto d_M_isUnder_30 ?_
      refine r_iret .boolean d_M_isUnder_34 rfl (by first | decide | assumption) ?_
      refine ⟨?_, rfl⟩
      simp only [a0, a1, a2, k3, k4, ak] at *
      first
        | (exfalso; omega)
        | rw [← bz_t (by omega)]
        | rw [← bz_f (by omega)]
    · refine r_iload_n 1 d_M_isUnder_9 rfl rfl ?_
      refine r_iconst 1 d_M_isUnder_10 rfl ?_
      refine r_icmp_ne d_M_isUnder_11 (fun h11 => ?_) (fun h11 => ?_)
      · refine r_iload_n 1 d_M_isUnder_19 rfl rfl ?_
        refine r_iconst 2 d_M_isUnder_20 rfl ?_
        refine r_icmp_ne d_M_isUnder_21 (fun h21 => ?_) (fun h21 => ?_)
        · refine r_iconst 0 d_M_isUnder_33 rfl ?_
          refine r_iret .boolean d_M_isUnder_34 rfl (by first | decide | assumption) ?_
          refine ⟨?_, rfl⟩
          simp only [a0, a1, a2, k3, k4, ak] at *
          first
            | (exfalso; omega)
            | rw [← bz_t (by omega)]
            | rw [← bz_f (by omega)]
        · refine r_iload_n 0 d_M_isUnder_24 rfl rfl ?_
          refine r_iconst 3 d_M_isUnder_25 rfl ?_
          refine r_icmp_ne d_M_isUnder_26 (fun h26 => ?_) (fun h26 => ?_)
          · refine r_iconst 0 d_M_isUnder_33 rfl ?_
            refine r_iret .boolean d_M_isUnder_34 rfl (by first | decide | assumption) ?_
            refine ⟨?_, rfl⟩
            simp only [a0, a1, a2, k3, k4, ak] at *
            first
              | (exfalso; omega)
              | rw [← bz_t (by omega)]
              | rw [← bz_f (by omega)]
          · refine r_iconst 1 d_M_isUnder_29 rfl ?_
            refine r_goto d_M_isUnder_30 ?_
            refine r_iret .boolean d_M_isUnder_34 rfl (by first | decide | assumption) ?_
            refine ⟨?_, rfl⟩
            simp only [a0, a1, a2, k3, k4, ak] at *
            first
              | (exfalso; omega)
              | rw [← bz_t (by omega)]
              | rw [← bz_f (by omega)]
      · refine r_iload_n 0 d_M_isUnder_14 rfl rfl ?_
        refine r_iconst 4 d_M_isUnder_15 rfl ?_
        refine r_icmp_eq d_M_isUnder_16 (fun h16 => ?_) (fun h16 => ?_)
        · refine r_iconst 1 d_M_isUnder_29 rfl ?_
          refine r_goto d_M_isUnder_30 ?_
          refine r_iret .boolean d_M_isUnder_34 rfl (by first | decide | assumption) ?_
          refine ⟨?_, rfl⟩
          simp only [a0, a1, a2, k3, k4, ak] at *
          first
            | (exfalso; omega)
            | rw [← bz_t (by omega)]
            | rw [← bz_f (by omega)]
        · refine r_iload_n 1 d_M_isUnder_19 rfl rfl ?_
          refine r_iconst 2 d_M_isUnder_20 rfl ?_
          refine r_icmp_ne d_M_isUnder_21 (fun h21 => ?_) (fun h21 => ?_)
          · refine r_iconst 0 d_M_isUnder_33 rfl ?_
            refine r_iret .boolean d_M_isUnder_34 rfl (by first | decide | assumption) ?_
            refine ⟨?_, rfl⟩
            simp only [a0, a1, a2, k3, k4, ak] at *
            first
              | (exfalso; omega)
              | rw [← bz_t (by omega)]
              | rw [← bz_f (by omega)]
          · refine r_iload_n 0 d_M_isUnder_24 rfl rfl ?_
            refine r_iconst 3 d_M_isUnder_25 rfl ?_
            refine r_icmp_ne d_M_isUnder_26 (fun h26 => ?_) (fun h26 => ?_)
            · refine r_iconst 0 d_M_isUnder_33 rfl ?_
              refine r_iret .boolean d_M_isUnder_34 rfl (by first | decide | assumption) ?_
              refine ⟨?_, rfl⟩
              simp only [a0, a1, a2, k3, k4, ak] at *
              first
                | (exfalso; omega)
                | rw [← bz_t (by omega)]
                | rw [← bz_f (by omega)]
            · refine r_iconst 1 d_M_isUnder_29 rfl ?_
              refine r_goto d_M_isUnder_30 ?_
              refine r_iret .boolean d_M_isUnder_34 rfl (by first | decide | assumption) ?_
              refine ⟨?_, rfl⟩
              simp only [a0, a1, a2, k3, k4, ak] at *
              first
                | (exfalso; omega)
                | rw [← bz_t (by omega)]
                | rw [← bz_f (by omega)]
set_option maxHeartbeats 400000 in
theorem c_M_taken_bad {s a : Int32} (hP : ¬ ((0 ≤ s ∧ s < 4) ∧ isAs a)) (μ : Me) : CtI m_M_taken 3 [.ref 82, .int s, .int a] μ (-1) μ := by
  refine Ct.of (ls := [.ref 82, .int s, .int a, flr]) rfl (Nat.le_of_ble_eq_true rfl) rfl (fun X => ?_)
  refine r_iload_n 1 d_M_taken_0 rfl rfl ?_
  refine r_callSi (c_M_isShelf _ _) lk_M_308 d_M_taken_1 rfl rfl (Nat.le_of_ble_eq_true rfl) (by decide) ?_
  refine r_if_eq d_M_taken_4 (fun h4 => ?_) (fun h4 => ?_)
  · refine r_iconst (-1) d_M_taken_27 rfl ?_
    refine r_iret .int d_M_taken_28 rfl rfl ?_
    exact ⟨rfl, rfl⟩
  · refine r_iload_n 2 d_M_taken_7 rfl rfl ?_
    refine r_iconst 0 d_M_taken_8 rfl ?_
    refine r_iconst 5 d_M_taken_9 rfl ?_
    refine r_callSi (c_M_in _ _ _ _) lk_M_72 d_M_taken_10 rfl rfl (Nat.le_of_ble_eq_true rfl) (by decide) ?_
    refine r_if_ne d_M_taken_13 (fun h13 => ?_) (fun h13 => ?_)
    · refine absurd ⟨bz_p h4, ?_⟩ hP
      first
        | (have z := bz_p h13; exact Or.inl ⟨z.1, by have := z.2; grind⟩)
        | (have z := bz_p h24; exact Or.inr z)
    · refine r_iload_n 2 d_M_taken_16 rfl rfl ?_
      refine r_bipush (10) d_M_taken_17 (by decide) ?_
      refine r_bipush (13) d_M_taken_19 (by decide) ?_
      refine r_callSi (c_M_in _ _ _ _) lk_M_72 d_M_taken_21 rfl rfl (Nat.le_of_ble_eq_true rfl) (by decide) ?_
      refine r_if_ne d_M_taken_24 (fun h24 => ?_) (fun h24 => ?_)
      · refine absurd ⟨bz_p h4, ?_⟩ hP
        first
          | (have z := bz_p h13; exact Or.inl ⟨z.1, by have := z.2; grind⟩)
          | (have z := bz_p h24; exact Or.inr z)
      · refine r_iconst (-1) d_M_taken_27 rfl ?_
        refine r_iret .int d_M_taken_28 rfl rfl ?_
        exact ⟨rfl, rfl⟩
theorem as_dec {a : Int32} (h : isAs a) : (0 ≤ a ∧ a ≤ 5) ∨ (¬ (0 ≤ a ∧ a ≤ 5) ∧ (10 ≤ a ∧ a ≤ 13)) := by
  rcases h with h | h
  · exact Or.inl ⟨h.1, by have := h.2; grind⟩
  · exact Or.inr ⟨fun z => by have := z.2; have := h.1; grind, h⟩
set_option maxHeartbeats 400000 in
theorem c_M_taken_k {j m : Nat} (hj : j < 4) (hm : m ≤ 4) (a : Int32) (ha : isAs a) (μ : Me) (hct : μ.1 83 0 = nI m) (hat : μ.1 82 1 = nI 0) (v : Int32) (hk : ∀ X, Wa X m_M_taken 3 35 [.ref 82, .int (nI j), .int a, .int (knS3 (μ.1 83) m (μ.1 96 j) (μ.1 97 j))] [] μ (fun r μ' => r = some (.int v) ∧ μ' = μ)) : CtI m_M_taken 3 [.ref 82, .int (nI j), .int a] μ v μ := by
  refine Ct.of (ls := [.ref 82, .int (nI j), .int a, flr]) rfl (Nat.le_of_ble_eq_true rfl) rfl (fun X => ?_)
  rcases as_dec ha with h | h
  · skip
    refine r_iload_n 1 d_M_taken_0 rfl rfl ?_
    refine r_callSi (c_M_isShelf _ _) lk_M_308 d_M_taken_1 rfl rfl (Nat.le_of_ble_eq_true rfl) (by decide) ?_
    refine r_if_eq d_M_taken_4 (fun h4 => absurd h4 (bzy (f4_yes hj))) (fun h4 => ?_)
    refine r_iload_n 2 d_M_taken_7 rfl rfl ?_
    refine r_iconst 0 d_M_taken_8 rfl ?_
    refine r_iconst 5 d_M_taken_9 rfl ?_
    refine r_callSi (c_M_in _ _ _ _) lk_M_72 d_M_taken_10 rfl rfl (Nat.le_of_ble_eq_true rfl) (by decide) ?_
    refine r_if_ne d_M_taken_13 (fun h13 => ?_) (fun h13 => absurd h13 (bzy h))
    refine r_aload_n 0 d_M_taken_29 rfl rfl ?_
    refine r_iload_n 1 d_M_taken_30 rfl rfl ?_
    refine r_callVi (c_M_kindOn hj hm _ hct hat) lk_M_317 (by first | with_reducible assumption | rfl) d_M_taken_31 rfl rfl (Nat.le_of_ble_eq_true rfl) (by decide) ?_
    refine r_istore_n 3 [_, _, _, _] d_M_taken_34 rfl (by decide) rfl ?_
    exact hk X
  · skip
    refine r_iload_n 1 d_M_taken_0 rfl rfl ?_
    refine r_callSi (c_M_isShelf _ _) lk_M_308 d_M_taken_1 rfl rfl (Nat.le_of_ble_eq_true rfl) (by decide) ?_
    refine r_if_eq d_M_taken_4 (fun h4 => absurd h4 (bzy (f4_yes hj))) (fun h4 => ?_)
    refine r_iload_n 2 d_M_taken_7 rfl rfl ?_
    refine r_iconst 0 d_M_taken_8 rfl ?_
    refine r_iconst 5 d_M_taken_9 rfl ?_
    refine r_callSi (c_M_in _ _ _ _) lk_M_72 d_M_taken_10 rfl rfl (Nat.le_of_ble_eq_true rfl) (by decide) ?_
    refine r_if_ne d_M_taken_13 (fun h13 => absurd (bzn h.1) h13) (fun h13 => ?_)
    refine r_iload_n 2 d_M_taken_16 rfl rfl ?_
    refine r_bipush (10) d_M_taken_17 (by decide) ?_
    refine r_bipush (13) d_M_taken_19 (by decide) ?_
    refine r_callSi (c_M_in _ _ _ _) lk_M_72 d_M_taken_21 rfl rfl (Nat.le_of_ble_eq_true rfl) (by decide) ?_
    refine r_if_ne d_M_taken_24 (fun h24 => ?_) (fun h24 => absurd h24 (bzy h.2))
    refine r_aload_n 0 d_M_taken_29 rfl rfl ?_
    refine r_iload_n 1 d_M_taken_30 rfl rfl ?_
    refine r_callVi (c_M_kindOn hj hm _ hct hat) lk_M_317 (by first | with_reducible assumption | rfl) d_M_taken_31 rfl rfl (Nat.le_of_ble_eq_true rfl) (by decide) ?_
    refine r_istore_n 3 [_, _, _, _] d_M_taken_34 rfl (by decide) rfl ?_
    exact hk X
set_option maxHeartbeats 400000 in
theorem c_M_taken_none {j m : Nat} (hj : j < 4) (hm : m ≤ 4) (a : Int32) (ha : isAs a) (μ : Me) (hct : μ.1 83 0 = nI m) (hat : μ.1 82 1 = nI 0) (hn : knS3 (μ.1 83) m (μ.1 96 j) (μ.1 97 j) = -1) : CtI m_M_taken 3 [.ref 82, .int (nI j), .int a] μ (-11) μ := by
  refine c_M_taken_k hj hm a ha μ hct hat _ (fun X => ?_)
  rw [hn]
  refine r_iload_n 3 d_M_taken_35 rfl rfl ?_
  refine r_if_ge d_M_taken_36 (fun h36 => absurd h36 (by decide)) (fun h36 => ?_)
  refine r_bipush (-11) d_M_taken_39 (by decide) ?_
  refine r_iret .int d_M_taken_41 rfl rfl ?_
  exact ⟨rfl, rfl⟩
set_option maxHeartbeats 400000 in
theorem c_M_taken_row {j m : Nat} (hj : j < 4) (hm : m ≤ 4) (a : Int32) (ha : isAs a) (μ : Me) (hct : μ.1 83 0 = nI m) (hat : μ.1 82 1 = nI 0) (hn : knS3 (μ.1 83) m (μ.1 96 j) (μ.1 97 j) = 9) : CtI m_M_taken 3 [.ref 82, .int (nI j), .int a] μ (if a = 10 + μ.1 97 j then μ.1 98 j else -13) μ := by
  refine c_M_taken_k hj hm a ha μ hct hat _ (fun X => ?_)
  rw [hn]
  refine r_iload_n 3 d_M_taken_35 rfl rfl ?_
  refine r_if_ge d_M_taken_36 (fun h36 => ?_) (fun h36 => absurd (by decide) h36)
  refine r_iload_n 3 d_M_taken_42 rfl rfl ?_
  refine r_bipush (9) d_M_taken_43 (by decide) ?_
  refine r_icmp_ne d_M_taken_45 (fun h45 => absurd rfl h45) (fun h45 => ?_)
  refine r_iload_n 2 d_M_taken_48 rfl rfl ?_
  refine r_bipush (10) d_M_taken_49 (by decide) ?_
  refine r_aload_n 0 d_M_taken_51 rfl rfl ?_
  refine r_getR fl_M_57 (by first | with_reducible assumption | rfl) rfl d_M_taken_52 ?_
  refine r_iload_n 1 d_M_taken_55 rfl rfl ?_
  refine r_ialdN (by first | with_reducible assumption | rfl) (by first | with_reducible assumption | omega | decide | assumption) d_M_taken_56 ?_
  refine r_iadd d_M_taken_57 ?_
  refine r_icmp_ne d_M_taken_58 (fun h58 => ?_) (fun h58 => ?_)
  · refine r_bipush (-13) d_M_taken_70 (by decide) ?_
    refine r_iret .int d_M_taken_72 rfl rfl ?_
    refine ⟨?_, rfl⟩
    first
      | rw [if_pos h58]
      | rw [if_neg h58]
  · refine r_aload_n 0 d_M_taken_61 rfl rfl ?_
    refine r_getR fl_M_60 (by first | with_reducible assumption | rfl) rfl d_M_taken_62 ?_
    refine r_iload_n 1 d_M_taken_65 rfl rfl ?_
    refine r_ialdN (by first | with_reducible assumption | rfl) (by first | with_reducible assumption | omega | decide | assumption) d_M_taken_66 ?_
    refine r_goto d_M_taken_67 ?_
    refine r_iret .int d_M_taken_72 rfl rfl ?_
    refine ⟨?_, rfl⟩
    first
      | rw [if_pos h58]
      | rw [if_neg h58]
set_option maxHeartbeats 400000 in
theorem c_M_taken_lrn {j m k q : Nat} (hj : j < 4) (hm : m ≤ 4) (a : Int32) (ha : isAs a) (μ : Me) (hct : μ.1 83 0 = nI m) (hat : μ.1 82 1 = nI 0) (hk : k < 6) (hn : knS3 (μ.1 83) m (μ.1 96 j) (μ.1 97 j) = nI k) (hq : μ.1 97 j = nI q) : CtI m_M_taken 3 [.ref 82, .int (nI j), .int a] μ (if (0 ≤ a ∧ a < 6) ∧ undB k a.toNatClampNeg = true then nI q else -13) μ := by
  refine c_M_taken_k hj hm a ha μ hct hat _ (fun X => ?_)
  rw [hn]
  rcases ha with h | h
  · obtain ⟨b, hb, rfl⟩ := nI_of (Int32.not_lt.mpr h.1)
    have hb6 : b < 6 := (nI_ltI (b := 6) hb (by decide)).mp h.2
    rw [cl36 hb6 (by decide)]
    refine r_iload_n 3 d_M_taken_35 rfl rfl ?_
    refine r_if_ge d_M_taken_36 (fun h36 => ?_) (fun h36 => absurd (nI_pos' (by omega)) h36)
    refine r_iload_n 3 d_M_taken_42 rfl rfl ?_
    refine r_bipush (9) d_M_taken_43 (by decide) ?_
    refine r_icmp_ne d_M_taken_45 (fun h45 => ?_) (fun h45 => absurd h45 (fun z => absurd ((nI_eq (b := 9) (by omega) (by decide)).mp z) (by omega)))
    refine r_iload_n 2 d_M_taken_73 rfl rfl ?_
    refine r_bipush (10) d_M_taken_74 (by decide) ?_
    refine r_icmp_ge d_M_taken_76 (fun h76 => absurd h76 (fun z => absurd ((nI_leI (a := 10) (by decide) (by omega)).mp z) (by omega))) (fun h76 => ?_)
    refine r_iload_n 3 d_M_taken_79 rfl rfl ?_
    refine r_iload_n 2 d_M_taken_80 rfl rfl ?_
    refine r_callSi (c_M_isUnder hk hb6 _) lk_M_320 d_M_taken_81 rfl rfl (Nat.le_of_ble_eq_true rfl) (by decide) ?_
    refine r_if_eq d_M_taken_84 (fun h84 => ?_) (fun h84 => ?_)
    · refine r_bipush (-13) d_M_taken_96 (by decide) ?_
      refine r_iret .int d_M_taken_98 rfl rfl ?_
      refine ⟨?_, rfl⟩
      first
        | rw [if_neg (fun z => bz_np h84 z.2)]
        | rw [if_pos ⟨h, bz_p h84⟩, hq]
    · refine r_aload_n 0 d_M_taken_87 rfl rfl ?_
      refine r_getR fl_M_57 (by first | with_reducible assumption | rfl) rfl d_M_taken_88 ?_
      refine r_iload_n 1 d_M_taken_91 rfl rfl ?_
      refine r_ialdN (by first | with_reducible assumption | rfl) (by first | with_reducible assumption | omega | decide | assumption) d_M_taken_92 ?_
      refine r_goto d_M_taken_93 ?_
      refine r_iret .int d_M_taken_98 rfl rfl ?_
      refine ⟨?_, rfl⟩
      first
        | rw [if_neg (fun z => bz_np h84 z.2)]
        | rw [if_pos ⟨h, bz_p h84⟩, hq]
  · rw [if_neg (fun z => by have := z.1.2; have := h.1; grind)]
    refine r_iload_n 3 d_M_taken_35 rfl rfl ?_
    refine r_if_ge d_M_taken_36 (fun h36 => ?_) (fun h36 => absurd (nI_pos' (by omega)) h36)
    refine r_iload_n 3 d_M_taken_42 rfl rfl ?_
    refine r_bipush (9) d_M_taken_43 (by decide) ?_
    refine r_icmp_ne d_M_taken_45 (fun h45 => ?_) (fun h45 => absurd h45 (fun z => absurd ((nI_eq (b := 9) (by omega) (by decide)).mp z) (by omega)))
    refine r_iload_n 2 d_M_taken_73 rfl rfl ?_
    refine r_bipush (10) d_M_taken_74 (by decide) ?_
    refine r_icmp_ge d_M_taken_76 (fun h76 => ?_) (fun h76 => absurd h.1 h76)
    refine r_bipush (-13) d_M_taken_96 (by decide) ?_
    refine r_iret .int d_M_taken_98 rfl rfl ?_
    exact ⟨rfl, rfl⟩
theorem kp_cl (v : Int32) : kpS v = clS v := by unfold kpS clS; grind
set_option maxHeartbeats 400000 in
theorem c_M_firms_bad {m : Nat} (hm : m ≤ 4) (s i l p n : Int32) (μ : Me) (hct : μ.1 83 0 = nI m) (hP : ¬ ((0 ≤ s ∧ s < 4) ∧ (0 ≤ l ∧ l < nI m) ∧ (0 ≤ p ∧ p < 36) ∧ 0 ≤ n ∧ n ≤ 36 - p)) : CtI m_M_firms 2 [.ref 82, .int s, .int i, .int l, .int p, .int n] μ (-1) μ := by
  refine Ct.of (ls := [.ref 82, .int s, .int i, .int l, .int p, .int n, flr, flr, flr, flr]) rfl (Nat.le_of_ble_eq_true rfl) rfl (fun X => ?_)
  refine r_iload_n 1 d_M_firms_0 rfl rfl ?_
  refine r_callSi (c_M_isShelf _ _) lk_M_308 d_M_firms_1 rfl rfl (Nat.le_of_ble_eq_true rfl) (by decide) ?_
  refine r_if_eq d_M_firms_4 (fun h4 => ?_) (fun h4 => ?_)
  · refine r_iconst (-1) d_M_firms_44 rfl ?_
    refine r_iret .int d_M_firms_45 rfl rfl ?_
    exact ⟨rfl, rfl⟩
  · refine r_aload_n 0 d_M_firms_7 rfl rfl ?_
    refine r_iload_n 3 d_M_firms_8 rfl rfl ?_
    refine r_callVi (c_M_isLearner hm _ _ hct) lk_M_115 (by first | with_reducible assumption | rfl) d_M_firms_9 rfl rfl (Nat.le_of_ble_eq_true rfl) (by decide) ?_
    refine r_if_eq d_M_firms_12 (fun h12 => ?_) (fun h12 => ?_)
    · refine r_iconst (-1) d_M_firms_44 rfl ?_
      refine r_iret .int d_M_firms_45 rfl rfl ?_
      exact ⟨rfl, rfl⟩
    · refine r_iload 4 d_M_firms_15 rfl ?_
      refine r_callSi (c_M_isPair _ _) lk_M_91 d_M_firms_17 rfl rfl (Nat.le_of_ble_eq_true rfl) (by decide) ?_
      refine r_if_eq d_M_firms_20 (fun h20 => ?_) (fun h20 => ?_)
      · refine r_iconst (-1) d_M_firms_44 rfl ?_
        refine r_iret .int d_M_firms_45 rfl rfl ?_
        exact ⟨rfl, rfl⟩
      · refine r_iload 5 d_M_firms_23 rfl ?_
        refine r_iconst 0 d_M_firms_25 rfl ?_
        refine r_bipush (36) d_M_firms_26 (by decide) ?_
        refine r_callSi (c_M_in _ _ _ _) lk_M_72 d_M_firms_28 rfl rfl (Nat.le_of_ble_eq_true rfl) (by decide) ?_
        refine r_if_eq d_M_firms_31 (fun h31 => ?_) (fun h31 => ?_)
        · refine r_iconst (-1) d_M_firms_44 rfl ?_
          refine r_iret .int d_M_firms_45 rfl rfl ?_
          exact ⟨rfl, rfl⟩
        · refine r_iload 4 d_M_firms_34 rfl ?_
          refine r_iload 5 d_M_firms_36 rfl ?_
          refine r_iadd d_M_firms_38 ?_
          refine r_bipush (36) d_M_firms_39 (by decide) ?_
          refine r_icmp_le d_M_firms_41 (fun h41 => ?_) (fun h41 => ?_)
          · have z1 := bz_p h20
            have z2 := bz_p h31
            exact absurd ⟨bz_p h4, bz_p h12, z1, z2.1, by have := z1.1; have := z1.2; have := z2.1; have := z2.2; grind⟩ hP
          · refine r_iconst (-1) d_M_firms_44 rfl ?_
            refine r_iret .int d_M_firms_45 rfl rfl ?_
            exact ⟨rfl, rfl⟩
set_option maxHeartbeats 400000 in
theorem c_M_firms_k {m s q p n : Nat} (hm : m ≤ 4) (hs : s < 4) (hq : q < m) (hp : p < 36) (hn : p + n ≤ 36) (i : Int32) (μ : Me) (hct : μ.1 83 0 = nI m) (hso : μ.1 93 s = -1 ∨ 0 ≤ μ.1 93 s) (post : Option Value → Me → Prop) (hk : ∀ X, Wa X m_M_firms 2 54 [.ref 82, .int (nI s), .int i, .int (nI q), .int (nI p), .int (nI n), .int (if μ.1 93 s = -1 then -11 else if μ.1 93 s = 0 then 0 else -13), flr, flr, flr] [] μ post) : Ct m_M_firms 2 [.ref 82, .int (nI s), .int i, .int (nI q), .int (nI p), .int (nI n)] μ post := by
  refine Ct.of (ls := [.ref 82, .int (nI s), .int i, .int (nI q), .int (nI p), .int (nI n), flr, flr, flr, flr]) rfl (Nat.le_of_ble_eq_true rfl) rfl (fun X => ?_)
  refine r_iload_n 1 d_M_firms_0 rfl rfl ?_
  refine r_callSi (c_M_isShelf _ _) lk_M_308 d_M_firms_1 rfl rfl (Nat.le_of_ble_eq_true rfl) (by decide) ?_
  refine r_if_eq d_M_firms_4 (fun h4 => absurd h4 (bzy (f4_yes hs))) (fun h4 => ?_)
  refine r_aload_n 0 d_M_firms_7 rfl rfl ?_
  refine r_iload_n 3 d_M_firms_8 rfl rfl ?_
  refine r_callVi (c_M_isLearner hm _ _ hct) lk_M_115 (by first | with_reducible assumption | rfl) d_M_firms_9 rfl rfl (Nat.le_of_ble_eq_true rfl) (by decide) ?_
  refine r_if_eq d_M_firms_12 (fun h12 => absurd h12 (bzy (nIb hq hm))) (fun h12 => ?_)
  refine r_iload 4 d_M_firms_15 rfl ?_
  refine r_callSi (c_M_isPair _ _) lk_M_91 d_M_firms_17 rfl rfl (Nat.le_of_ble_eq_true rfl) (by decide) ?_
  refine r_if_eq d_M_firms_20 (fun h20 => absurd h20 (bzy (pIb hp))) (fun h20 => ?_)
  refine r_iload 5 d_M_firms_23 rfl ?_
  refine r_iconst 0 d_M_firms_25 rfl ?_
  refine r_bipush (36) d_M_firms_26 (by decide) ?_
  refine r_callSi (c_M_in _ _ _ _) lk_M_72 d_M_firms_28 rfl rfl (Nat.le_of_ble_eq_true rfl) (by decide) ?_
  refine r_if_eq d_M_firms_31 (fun h31 => absurd h31 (bzy ⟨nI_pos' (by omega), nI_le (b := 36) (by omega) (by decide)⟩)) (fun h31 => ?_)
  refine r_iload 4 d_M_firms_34 rfl ?_
  refine r_iload 5 d_M_firms_36 rfl ?_
  refine r_iadd d_M_firms_38 ?_
  rw [nI_add]
  refine r_bipush (36) d_M_firms_39 (by decide) ?_
  refine r_icmp_le d_M_firms_41 (fun h41 => ?_) (fun h41 => absurd (nI_le (b := 36) hn (by decide)) h41)
  refine r_aload_n 0 d_M_firms_46 rfl rfl ?_
  refine r_iload_n 1 d_M_firms_47 rfl rfl ?_
  refine r_iconst 0 d_M_firms_48 rfl ?_
  refine r_callVi (c_M_lacksSort hs _ _ hso) lk_M_311 (by first | with_reducible assumption | rfl) d_M_firms_49 rfl rfl (Nat.le_of_ble_eq_true rfl) (by decide) ?_
  refine r_istore 6 [_, _, _, _, _, _, _, _, _, _] d_M_firms_52 (by decide) rfl ?_
  exact hk X
set_option maxHeartbeats 400000 in
theorem c_M_firms_none {m s q p n : Nat} (hm : m ≤ 4) (hs : s < 4) (hq : q < m) (hp : p < 36) (hn : p + n ≤ 36) (i : Int32) (μ : Me) (hct : μ.1 83 0 = nI m) (hso : μ.1 93 s = -1) : CtI m_M_firms 2 [.ref 82, .int (nI s), .int i, .int (nI q), .int (nI p), .int (nI n)] μ (-11) μ := by
  refine c_M_firms_k hm hs hq hp hn i μ hct (Or.inl hso) _ (fun X => ?_)
  rw [if_pos hso]
  refine r_iload 6 d_M_firms_54 rfl ?_
  refine r_if_eq d_M_firms_56 (fun h56 => absurd h56 (by decide)) (fun h56 => ?_)
  refine r_iload 6 d_M_firms_59 rfl ?_
  refine r_iret .int d_M_firms_61 rfl rfl ?_
  exact ⟨rfl, rfl⟩
set_option maxHeartbeats 400000 in
theorem c_M_firms_other {m s q p n : Nat} (hm : m ≤ 4) (hs : s < 4) (hq : q < m) (hp : p < 36) (hn : p + n ≤ 36) (i : Int32) (μ : Me) (hct : μ.1 83 0 = nI m) (hso : μ.1 93 s = -1 ∨ 0 ≤ μ.1 93 s) (h1 : ¬ μ.1 93 s = -1) (h2 : ¬ μ.1 93 s = 0) : CtI m_M_firms 2 [.ref 82, .int (nI s), .int i, .int (nI q), .int (nI p), .int (nI n)] μ (-13) μ := by
  refine c_M_firms_k hm hs hq hp hn i μ hct hso _ (fun X => ?_)
  rw [if_neg h1, if_neg h2]
  refine r_iload 6 d_M_firms_54 rfl ?_
  refine r_if_eq d_M_firms_56 (fun h56 => absurd h56 (by decide)) (fun h56 => ?_)
  refine r_iload 6 d_M_firms_59 rfl ?_
  refine r_iret .int d_M_firms_61 rfl rfl ?_
  exact ⟨rfl, rfl⟩
set_option maxHeartbeats 400000 in
theorem c_M_firms_out {m s q p n ln : Nat} (hm : m ≤ 4) (hs : s < 4) (hq : q < m) (hp : p < 36) (hn : p + n ≤ 36) (hl : ln ≤ 40) (i : Int32) (μ : Me) (hct : μ.1 83 0 = nI m) (h2 : μ.1 93 s = 0) (hln : μ.1 94 s = nI ln) (ho : ∀ k, i = nI k → k < 2 ^ 31 → ln < k + n) : CtI m_M_firms 2 [.ref 82, .int (nI s), .int i, .int (nI q), .int (nI p), .int (nI n)] μ (-12) μ := by
  refine c_M_firms_k hm hs hq hp hn i μ hct (Or.inr (by rw [h2]; decide)) _ (fun X => ?_)
  rw [if_neg (by rw [h2]; decide), if_pos h2]
  refine r_iload 6 d_M_firms_54 rfl ?_
  refine r_if_eq d_M_firms_56 (fun h56 => ?_) (fun h56 => absurd rfl h56)
  refine r_iload_n 2 d_M_firms_62 rfl rfl ?_
  refine r_if_lt d_M_firms_63 (fun h63 => ?_) (fun h63 => ?_)
  · refine r_bipush (-12) d_M_firms_79 (by decide) ?_
    refine r_iret .int d_M_firms_81 rfl rfl ?_
    exact ⟨rfl, rfl⟩
  · refine r_iload_n 2 d_M_firms_66 rfl rfl ?_
    refine r_aload_n 0 d_M_firms_67 rfl rfl ?_
    refine r_getR fl_M_47 (by first | with_reducible assumption | rfl) rfl d_M_firms_68 ?_
    refine r_iload_n 1 d_M_firms_71 rfl rfl ?_
    refine r_ialdN (by first | with_reducible assumption | rfl) (by first | with_reducible assumption | omega | decide | assumption) d_M_firms_72 ?_
    rw [hln]
    refine r_iload 5 d_M_firms_73 rfl ?_
    refine r_isub d_M_firms_75 ?_
    refine r_icmp_le d_M_firms_76 (fun h76 => ?_) (fun h76 => ?_)
    · obtain ⟨k, hk, ek⟩ := nI_of h63
      have h3 := ho k ek hk
      rw [ek] at h76
      exfalso
      have h4 := Int32.le_iff_toInt_le.mp h76
      rw [pk_sub_toInt (by omega) (by omega), nI_toInt hk] at h4
      omega
    · refine r_bipush (-12) d_M_firms_79 (by decide) ?_
      refine r_iret .int d_M_firms_81 rfl rfl ?_
      exact ⟨rfl, rfl⟩
set_option maxHeartbeats 400000 in
theorem c_M_firms {m s q p n ln k : Nat} (hm : m ≤ 4) (hs : s < 4) (hq : q < m) (hp : p < 36) (hn : p + n ≤ 36) (hl : ln ≤ 40) (hk : k + n ≤ ln) (μ : Me) (hct : μ.1 83 0 = nI m) (hat : μ.1 82 1 = nI 0) (h2 : μ.1 93 s = 0) (hln : μ.1 94 s = nI ln) : CtI m_M_firms 2 [.ref 82, .int (nI s), .int (nI k), .int (nI q), .int (nI p), .int (nI n)] μ (nI n) (rI μ 83 (ls3 (μ.1 83) 0 q (frF (fun x => μ.2 95 (40 * s + x)) k p (fM (μ.1 83) 0 q) n) (rM (μ.1 83) 0 q) (lM (μ.1 83) 0 q))) := by
  refine c_M_firms_k hm hs hq hp hn _ μ hct (Or.inr (by rw [h2]; decide)) _ (fun X => ?_)
  have hat1 : ∀ f, (rI μ 83 f).1 82 1 = nI 0 := fun f => by rw [rI_ne (by decide), hat]
  rw [if_neg (by rw [h2]; decide), if_pos h2]
  refine r_iload 6 d_M_firms_54 rfl ?_
  refine r_if_eq d_M_firms_56 (fun h56 => ?_) (fun h56 => absurd rfl h56)
  refine r_iload_n 2 d_M_firms_62 rfl rfl ?_
  refine r_if_lt d_M_firms_63 (fun h63 => absurd h63 (nI_pos (by omega))) (fun h63 => ?_)
  refine r_iload_n 2 d_M_firms_66 rfl rfl ?_
  refine r_aload_n 0 d_M_firms_67 rfl rfl ?_
  refine r_getR fl_M_47 (by first | with_reducible assumption | rfl) rfl d_M_firms_68 ?_
  refine r_iload_n 1 d_M_firms_71 rfl rfl ?_
  refine r_ialdN (by first | with_reducible assumption | rfl) (by first | with_reducible assumption | omega | decide | assumption) d_M_firms_72 ?_
  rw [hln]
  refine r_iload 5 d_M_firms_73 rfl ?_
  refine r_isub d_M_firms_75 ?_
  rw [pk_sub (by omega)]
  refine r_icmp_le d_M_firms_76 (fun h76 => ?_) (fun h76 => absurd (nI_le (by omega) (by omega)) h76)
  refine r_iconst 0 d_M_firms_82 rfl ?_
  refine r_istore 7 [_, _, _, _, _, _, _, _, _, _] d_M_firms_83 (by decide) rfl ?_
  refine lpN n (fun x (μ1 : Me) => ∀ z1 z2 : Value, Wa X m_M_firms 2 85 [.ref 82, .int (nI s), .int (nI k), .int (nI q), .int (nI p), .int (nI n), .int 0, .int (nI x), z1, z2] [] μ1 _) (fun x μ1 => μ1 = rI μ 83 (ls3 (μ.1 83) 0 q (frF (fun x => μ.2 95 (40 * s + x)) k p (fM (μ.1 83) 0 q) x) (rM (μ.1 83) 0 q) (lM (μ.1 83) 0 q))) ?_ 0 μ (Nat.zero_le _) (by rw [frF, ls3_self, rI_self]) _ _
  intro x μ1 hx hv hkk z1 z2
  subst hv
  refine r_iload 7 d_M_firms_85 rfl ?_
  refine r_iload 5 d_M_firms_87 rfl ?_
  refine r_icmp_ge d_M_firms_89 (fun h89 => ?_) (fun h89 => ?_)
  · refine r_iload 5 d_M_firms_135 rfl ?_
    refine r_iret .int d_M_firms_137 rfl rfl ?_
    have hge := n_le h89 rfl rfl (by omega) (by omega)
    obtain rfl : x = n := by omega
    exact ⟨rfl, rfl⟩
  · have hlx : x < n := n_lt h89 rfl rfl (by omega) (by omega)
    refine r_aload_n 0 d_M_firms_92 rfl rfl ?_
    refine r_getR fl_M_50 (by first | with_reducible assumption | rfl) rfl d_M_firms_93 ?_
    refine r_bipush (40) d_M_firms_96 (by decide) ?_
    refine r_iload_n 1 d_M_firms_98 rfl rfl ?_
    refine r_imul d_M_firms_99 ?_
    refine r_iload_n 2 d_M_firms_100 rfl rfl ?_
    refine r_iadd d_M_firms_101 ?_
    refine r_iload 7 d_M_firms_102 rfl ?_
    refine r_iadd d_M_firms_104 ?_
    rw [mul40, nI_add, nI_add]
    refine r_laldN (by first | with_reducible assumption | rfl) (show 40 * s + k + x < 160 by omega) d_M_firms_105 ?_
    refine r_lstore 8 [_, _, _, _, _, _, _, _, _, _] d_M_firms_106 (by decide) rfl ?_
    refine r_aload_n 0 d_M_firms_108 rfl rfl ?_
    refine r_getR fl_M_7 (by first | with_reducible assumption | rfl) rfl d_M_firms_109 ?_
    refine r_aload_n 0 d_M_firms_112 rfl rfl ?_
    refine r_iload_n 3 d_M_firms_113 rfl rfl ?_
    refine r_iload 4 d_M_firms_114 rfl ?_
    refine r_iload 7 d_M_firms_116 rfl ?_
    refine r_iadd d_M_firms_118 ?_
    rw [nI_add]
    refine r_callVi (c_M_place (A := 0) _ (hat1 _)) lk_M_109 (by first | with_reducible assumption | rfl) d_M_firms_119 rfl rfl (Nat.le_of_ble_eq_true rfl) (by decide) ?_
    refine r_lload 8 d_M_firms_122 rfl ?_
    refine r_l2i d_M_firms_124 ?_
    refine r_callSi (c_M_kept _ _) lk_M_139 d_M_firms_125 rfl rfl (Nat.le_of_ble_eq_true rfl) (by decide) ?_
    refine r_iastN (by first | with_reducible assumption | rfl) (show 0 + 4 + 110 * q + 3 * (p + x) < 884 by omega) d_M_firms_128 ?_
    first | refine r_iincN 7 [_, _, _, _, _, _, _, _, _, _] d_M_firms_129 (by decide) rfl rfl ?_ | refine r_iinc 7 [_, _, _, _, _, _, _, _, _, _] (1) d_M_firms_129 (by decide) (by decide) rfl rfl ?_
    refine r_goto d_M_firms_132 ?_
    refine hkk _ hlx ?_ _ _
    rw [uI_rI, ls3_u1 (by omega), frF, rI_2, kp_cl, show 40 * s + k + x = 40 * s + (k + x) by omega]
/-! acts -/
def dN (μ : Me) (s : DS) : Me := uI (uI (rI μ 99 s.2.2) 82 36 (bz (s.1 = true))) 82 35 (nI s.2.1)
theorem dN_lo {μ : Me} {s : DS} {j : Nat} (h : j ≠ 35) (h2 : j ≠ 36) : (dN μ s).1 82 j = μ.1 82 j := by rw [dN, uI_off h, uI_off h2, rI_ne (by decide)]
theorem dN_36 {μ : Me} {s : DS} : (dN μ s).1 82 36 = bz (s.1 = true) := by rw [dN, uI_off (by decide), uI_at]
theorem dN_35 {μ : Me} {s : DS} : (dN μ s).1 82 35 = nI s.2.1 := by rw [dN, uI_at]
theorem dN_99 {μ : Me} {s : DS} : (dN μ s).1 99 = s.2.2 := by rw [dN, uI_ne (by decide), uI_ne (by decide), rI_eq]
theorem dN_ne {μ : Me} {s : DS} {c : Nat} (h : c ≠ 82) (h2 : c ≠ 99) : (dN μ s).1 c = μ.1 c := by rw [dN, uI_ne h, uI_ne h, rI_ne h2]
theorem dN_beg {μ : Me} {s : DS} {b : Int32} : uI (uI (dN μ s) 99 s.2.1 b) 82 35 (nI (s.2.1 + 1)) = dN μ (s.1, s.2.1 + 1, upd s.2.2 s.2.1 b) := by
  refine Me_ext (fun c' x => ?_) (fun _ _ => rfl)
  by_cases h1 : c' = 82
  · subst h1
    by_cases h5 : x = 35
    · subst h5; rw [uI_at, dN_35]
    · rw [uI_off h5, uI_ne (by decide)]
      by_cases h6 : x = 36
      · subst h6; rw [dN_36, dN_36]
      · rw [dN_lo h5 h6, dN_lo h5 h6]
  · rw [uI_ne h1]
    by_cases h2 : c' = 99
    · subst h2; rw [uI_eq, dN_99, dN_99]
    · rw [uI_ne h2, dN_ne h1 h2, dN_ne h1 h2]
set_option maxHeartbeats 400000 in
theorem c_M_ran (b : Int32) (μ : Me) (s : DS) (hs : s.2.1 ≤ 30) : CtV m_M_ran 0 [.ref 82, .int b] (dN μ s) (dN μ (begD s b)) := by
  refine Ct.of (ls := [.ref 82, .int b]) rfl (Nat.le_of_ble_eq_true rfl) rfl (fun X => ?_)
  refine r_aload_n 0 d_M_ran_0 rfl rfl ?_
  refine r_getI fl_M_323 (by first | with_reducible assumption | rfl) rfl d_M_ran_1 ?_
  refine r_bipush (30) d_M_ran_4 (by decide) ?_
  rw [dN_35]
  refine r_icmp_ge d_M_ran_6 (fun h6 => ?_) (fun h6 => ?_)
  · refine r_ret d_M_ran_29 rfl ?_
    refine ⟨rfl, ?_⟩
    first
      | (have z6 := n_le (a := 30) h6 rfl rfl (by decide) (by omega); rw [begD, if_neg (by omega)])
      | (have z6 : s.2.1 < 30 := n_lt (a := 30) h6 rfl rfl (by decide) (by omega); rw [begD, if_pos z6, ← nI_succ, dN_beg])
  · have hl : s.2.1 < 30 := n_lt (a := 30) h6 rfl rfl (by decide) (by omega)
    refine r_aload_n 0 d_M_ran_9 rfl rfl ?_
    refine r_getR fl_M_63 (by first | with_reducible assumption | rfl) rfl d_M_ran_10 ?_
    refine r_aload_n 0 d_M_ran_13 rfl rfl ?_
    refine r_getI fl_M_323 (by first | with_reducible assumption | rfl) rfl d_M_ran_14 ?_
    rw [dN_35]
    refine r_iload_n 1 d_M_ran_17 rfl rfl ?_
    refine r_iastN (by first | with_reducible assumption | rfl) (by first | with_reducible assumption | omega | decide | assumption) d_M_ran_18 ?_
    refine r_aload_n 0 d_M_ran_19 rfl rfl ?_
    refine r_dup d_M_ran_20 rfl ?_
    refine r_getI fl_M_323 (by first | with_reducible assumption | rfl) rfl d_M_ran_21 ?_
    rw [uI_ne (by decide), dN_35, show nI s.2.1 = nI s.2.1 from rfl]
    refine r_iconst 1 d_M_ran_24 rfl ?_
    refine r_iadd d_M_ran_25 ?_
    refine r_putI fp_M_323 (by first | with_reducible assumption | rfl) rfl d_M_ran_26 ?_
    refine r_ret d_M_ran_29 rfl ?_
    refine ⟨rfl, ?_⟩
    first
      | (have z6 := n_le (a := 30) h6 rfl rfl (by decide) (by omega); rw [begD, if_neg (by omega)])
      | (have z6 : s.2.1 < 30 := n_lt (a := 30) h6 rfl rfl (by decide) (by omega); rw [begD, if_pos z6, ← nI_succ, dN_beg])
section Acts
variable (k n a : Int32)
def pSay (x : Int32) (s : DS) : Int32 × DS := (x + n, begD s 10)
def rSay (x : Int32) (s : DS) : Int32 × DS := ((pSay n x (begD s 30)).1 * 3, (pSay n x (begD s 30)).2)
def saysP (x : Int32) (s : DS) : Int32 × DS := if k = 2 then rSay n x s else if k = 3 then (0 - (rSay n x (begD s 40)).1, (rSay n x (begD s 40)).2) else if k = 4 then ((pSay n x (begD s 51)).1 - n, (pSay n x (begD s 51)).2) else pSay n x s
def pLrn (x : Int32) (s : DS) : Int32 × DS := ((saysP k n x (begD s 11)).1 * 2, (saysP k n x (begD s 11)).2)
def lrnP (x : Int32) (s : DS) : Int32 × DS := if k = 1 ∨ k = 4 then ((pLrn k n x (begD s 20)).1 - a, (pLrn k n x (begD s 20)).2) else if k = 3 then ((pLrn k n x (begD s 41)).1 + (saysP k n n (pLrn k n x (begD s 41)).2).1, (saysP k n n (pLrn k n x (begD s 41)).2).2) else pLrn k n x s
def pShr (x : Int32) (s : DS) : Int32 × DS := if a = n then (0, (true, (begD s 12).2)) else (x / (a - n), begD s 12)
def shrP (x : Int32) (s : DS) : Int32 × DS := if k = 4 then ((pShr n a (x + 2) (begD s 50)).1 ^^^ 1, (pShr n a (x + 2) (begD s 50)).2) else if k = 5 then (if (pShr n a x (begD s 61)).2.1 = true then (0, (pShr n a x (begD s 61)).2) else ((pShr n a x (begD s 61)).1 + (saysP k n a (pShr n a x (begD s 61)).2).1, (saysP k n a (pShr n a x (begD s 61)).2).2)) else pShr n a x s
def pTel (x : Int32) (s : DS) : Int32 × DS := ((lrnP k n a x (begD s 13)).1 ^^^ a, (lrnP k n a x (begD s 13)).2)
def telP (x : Int32) (s : DS) : Int32 × DS := if k = 2 ∨ k = 3 then ((pTel k n a x (begD s 31)).1 + (shrP k n a n (pTel k n a x (begD s 31)).2).1, (shrP k n a n (pTel k n a x (begD s 31)).2).2) else if k = 5 then ((pTel k n a x (begD s 60)).1 * 2, (pTel k n a x (begD s 60)).2) else pTel k n a x s
end Acts
theorem pSay_l {n x : Int32} {s : DS} (h : s.2.1 ≤ 30) : (pSay n x s).2.2.1 ≤ 30 := begD_le h
theorem rSay_l {n x : Int32} {s : DS} (h : s.2.1 ≤ 30) : (rSay n x s).2.2.1 ≤ 30 := pSay_l (n := n) (x := x) (begD_le h)
theorem saysP_l {k n x : Int32} {s : DS} (h : s.2.1 ≤ 30) : (saysP k n x s).2.2.1 ≤ 30 := by
  unfold saysP
  split
  · exact rSay_l h
  · split
    · exact rSay_l (n := n) (x := x) (begD_le h)
    · split
      · exact pSay_l (n := n) (x := x) (begD_le h)
      · exact pSay_l h
theorem pLrn_l {k n x : Int32} {s : DS} (h : s.2.1 ≤ 30) : (pLrn k n x s).2.2.1 ≤ 30 := saysP_l (begD_le h)
theorem lrnP_l {k n a x : Int32} {s : DS} (h : s.2.1 ≤ 30) : (lrnP k n a x s).2.2.1 ≤ 30 := by
  unfold lrnP
  split
  · exact pLrn_l (begD_le h)
  · split
    · exact saysP_l (pLrn_l (begD_le h))
    · exact pLrn_l h
theorem pShr_l {n a x : Int32} {s : DS} (h : s.2.1 ≤ 30) : (pShr n a x s).2.2.1 ≤ 30 := by
  unfold pShr
  split
  · exact begD_le h
  · exact begD_le h
theorem shrP_l {k n a x : Int32} {s : DS} (h : s.2.1 ≤ 30) : (shrP k n a x s).2.2.1 ≤ 30 := by
  unfold shrP
  split
  · exact pShr_l (begD_le h)
  · split
    · split
      · exact pShr_l (begD_le h)
      · exact saysP_l (pShr_l (begD_le h))
    · exact pShr_l h
theorem pTel_l {k n a x : Int32} {s : DS} (h : s.2.1 ≤ 30) : (pTel k n a x s).2.2.1 ≤ 30 := lrnP_l (begD_le h)
set_option maxHeartbeats 400000 in
theorem c_M_plainSays {μ : Me} {n : Int32} (hn : μ.1 82 32 = n) (x : Int32) (s : DS) (hs : s.2.1 ≤ 30) : CtI m_M_plainSays 1 [.ref 82, .int x] (dN μ s) (pSay n x s).1 (dN μ (pSay n x s).2) := by
  refine Ct.of (ls := [.ref 82, .int x]) rfl (Nat.le_of_ble_eq_true rfl) rfl (fun X => ?_)
  refine r_aload_n 0 d_M_plainSays_0 rfl rfl ?_
  refine r_bipush (10) d_M_plainSays_1 (by decide) ?_
  refine r_callVv (c_M_ran _ _ _ hs) lk_M_326 (by first | with_reducible assumption | rfl) d_M_plainSays_3 rfl rfl (Nat.le_of_ble_eq_true rfl) (by decide) ?_
  refine r_iload_n 1 d_M_plainSays_6 rfl rfl ?_
  refine r_aload_n 0 d_M_plainSays_7 rfl rfl ?_
  refine r_getI fl_M_329 (by first | with_reducible assumption | rfl) rfl d_M_plainSays_8 ?_
  rw [dN_lo (by decide) (by decide), hn]
  refine r_iadd d_M_plainSays_11 ?_
  refine r_iret .int d_M_plainSays_12 rfl rfl ?_
  exact ⟨rfl, rfl⟩
set_option maxHeartbeats 400000 in
theorem c_M_parrotSays {μ : Me} {n : Int32} (hn : μ.1 82 32 = n) (x : Int32) (s : DS) (hs : s.2.1 ≤ 30) : CtI m_M_parrotSays 2 [.ref 82, .int x] (dN μ s) (rSay n x s).1 (dN μ (rSay n x s).2) := by
  refine Ct.of (ls := [.ref 82, .int x]) rfl (Nat.le_of_ble_eq_true rfl) rfl (fun X => ?_)
  refine r_aload_n 0 d_M_parrotSays_0 rfl rfl ?_
  refine r_bipush (30) d_M_parrotSays_1 (by decide) ?_
  refine r_callVv (c_M_ran _ _ _ hs) lk_M_326 (by first | with_reducible assumption | rfl) d_M_parrotSays_3 rfl rfl (Nat.le_of_ble_eq_true rfl) (by decide) ?_
  refine r_aload_n 0 d_M_parrotSays_6 rfl rfl ?_
  refine r_iload_n 1 d_M_parrotSays_7 rfl rfl ?_
  refine r_callVi (c_M_plainSays hn _ _ (begD_le hs)) lk_M_332 (by first | with_reducible assumption | rfl) d_M_parrotSays_8 rfl rfl (Nat.le_of_ble_eq_true rfl) (by decide) ?_
  refine r_iconst 3 d_M_parrotSays_11 rfl ?_
  refine r_imul d_M_parrotSays_12 ?_
  refine r_iret .int d_M_parrotSays_13 rfl rfl ?_
  exact ⟨rfl, rfl⟩
set_option maxHeartbeats 400000 in
theorem c_M_saysIt {μ : Me} {k n : Int32} (hk : μ.1 82 31 = k) (hn : μ.1 82 32 = n) (x : Int32) (s : DS) (hs : s.2.1 ≤ 30) : CtI m_M_saysIt 3 [.ref 82, .int x] (dN μ s) (saysP k n x s).1 (dN μ (saysP k n x s).2) := by
  refine Ct.of (ls := [.ref 82, .int x]) rfl (Nat.le_of_ble_eq_true rfl) rfl (fun X => ?_)
  refine r_aload_n 0 d_M_saysIt_0 rfl rfl ?_
  refine r_getI fl_M_335 (by first | with_reducible assumption | rfl) rfl d_M_saysIt_1 ?_
  rw [dN_lo (by decide) (by decide), hk]
  refine r_ts d_M_saysIt_4 (List.forall_mem_cons.mpr ⟨fun h4 => ?_, List.forall_mem_cons.mpr ⟨fun h4 => ?_, List.forall_mem_cons.mpr ⟨fun h4 => ?_, fun _ h => absurd h List.not_mem_nil⟩⟩⟩) (fun h4 => ?_)
  · refine r_aload_n 0 d_M_saysIt_32 rfl rfl ?_
    refine r_iload_n 1 d_M_saysIt_33 rfl rfl ?_
    refine r_callVi (c_M_parrotSays hn _ _ hs) lk_M_338 (by first | with_reducible assumption | rfl) d_M_saysIt_34 rfl rfl (Nat.le_of_ble_eq_true rfl) (by decide) ?_
    refine r_iret .int d_M_saysIt_37 rfl rfl ?_
    first
      | (have z : k = 2 := h4; rw [saysP, if_pos z]; exact ⟨rfl, rfl⟩)
      | (have z : k = 3 := h4; rw [saysP, if_neg (by rw [z]; decide), if_pos z]; exact ⟨rfl, rfl⟩)
      | (have z : k = 4 := h4; rw [saysP, if_neg (by rw [z]; decide), if_neg (by rw [z]; decide), if_pos z]; exact ⟨rfl, rfl⟩)
      | (rw [saysP, if_neg (h4 (2, 32) (by simp)), if_neg (h4 (3, 38) (by simp)), if_neg (h4 (4, 52) (by simp))]; exact ⟨rfl, rfl⟩)
  · refine r_aload_n 0 d_M_saysIt_38 rfl rfl ?_
    refine r_bipush (40) d_M_saysIt_39 (by decide) ?_
    refine r_callVv (c_M_ran _ _ _ hs) lk_M_326 (by first | with_reducible assumption | rfl) d_M_saysIt_41 rfl rfl (Nat.le_of_ble_eq_true rfl) (by decide) ?_
    refine r_iconst 0 d_M_saysIt_44 rfl ?_
    refine r_aload_n 0 d_M_saysIt_45 rfl rfl ?_
    refine r_iload_n 1 d_M_saysIt_46 rfl rfl ?_
    refine r_callVi (c_M_parrotSays hn _ _ (begD_le hs)) lk_M_338 (by first | with_reducible assumption | rfl) d_M_saysIt_47 rfl rfl (Nat.le_of_ble_eq_true rfl) (by decide) ?_
    refine r_isub d_M_saysIt_50 ?_
    refine r_iret .int d_M_saysIt_51 rfl rfl ?_
    first
      | (have z : k = 2 := h4; rw [saysP, if_pos z]; exact ⟨rfl, rfl⟩)
      | (have z : k = 3 := h4; rw [saysP, if_neg (by rw [z]; decide), if_pos z]; exact ⟨rfl, rfl⟩)
      | (have z : k = 4 := h4; rw [saysP, if_neg (by rw [z]; decide), if_neg (by rw [z]; decide), if_pos z]; exact ⟨rfl, rfl⟩)
      | (rw [saysP, if_neg (h4 (2, 32) (by simp)), if_neg (h4 (3, 38) (by simp)), if_neg (h4 (4, 52) (by simp))]; exact ⟨rfl, rfl⟩)
  · refine r_aload_n 0 d_M_saysIt_52 rfl rfl ?_
    refine r_bipush (51) d_M_saysIt_53 (by decide) ?_
    refine r_callVv (c_M_ran _ _ _ hs) lk_M_326 (by first | with_reducible assumption | rfl) d_M_saysIt_55 rfl rfl (Nat.le_of_ble_eq_true rfl) (by decide) ?_
    refine r_aload_n 0 d_M_saysIt_58 rfl rfl ?_
    refine r_iload_n 1 d_M_saysIt_59 rfl rfl ?_
    refine r_callVi (c_M_plainSays hn _ _ (begD_le hs)) lk_M_332 (by first | with_reducible assumption | rfl) d_M_saysIt_60 rfl rfl (Nat.le_of_ble_eq_true rfl) (by decide) ?_
    refine r_aload_n 0 d_M_saysIt_63 rfl rfl ?_
    refine r_getI fl_M_329 (by first | with_reducible assumption | rfl) rfl d_M_saysIt_64 ?_
    rw [dN_lo (by decide) (by decide), hn]
    refine r_isub d_M_saysIt_67 ?_
    refine r_iret .int d_M_saysIt_68 rfl rfl ?_
    first
      | (have z : k = 2 := h4; rw [saysP, if_pos z]; exact ⟨rfl, rfl⟩)
      | (have z : k = 3 := h4; rw [saysP, if_neg (by rw [z]; decide), if_pos z]; exact ⟨rfl, rfl⟩)
      | (have z : k = 4 := h4; rw [saysP, if_neg (by rw [z]; decide), if_neg (by rw [z]; decide), if_pos z]; exact ⟨rfl, rfl⟩)
      | (rw [saysP, if_neg (h4 (2, 32) (by simp)), if_neg (h4 (3, 38) (by simp)), if_neg (h4 (4, 52) (by simp))]; exact ⟨rfl, rfl⟩)
  · refine r_aload_n 0 d_M_saysIt_69 rfl rfl ?_
    refine r_iload_n 1 d_M_saysIt_70 rfl rfl ?_
    refine r_callVi (c_M_plainSays hn _ _ hs) lk_M_332 (by first | with_reducible assumption | rfl) d_M_saysIt_71 rfl rfl (Nat.le_of_ble_eq_true rfl) (by decide) ?_
    refine r_iret .int d_M_saysIt_74 rfl rfl ?_
    first
      | (have z : k = 2 := h4; rw [saysP, if_pos z]; exact ⟨rfl, rfl⟩)
      | (have z : k = 3 := h4; rw [saysP, if_neg (by rw [z]; decide), if_pos z]; exact ⟨rfl, rfl⟩)
      | (have z : k = 4 := h4; rw [saysP, if_neg (by rw [z]; decide), if_neg (by rw [z]; decide), if_pos z]; exact ⟨rfl, rfl⟩)
      | (rw [saysP, if_neg (h4 (2, 32) (by simp)), if_neg (h4 (3, 38) (by simp)), if_neg (h4 (4, 52) (by simp))]; exact ⟨rfl, rfl⟩)
set_option maxHeartbeats 400000 in
theorem c_M_plainLearns {μ : Me} {k n : Int32} (hk : μ.1 82 31 = k) (hn : μ.1 82 32 = n) (x : Int32) (s : DS) (hs : s.2.1 ≤ 30) : CtI m_M_plainLearns 4 [.ref 82, .int x] (dN μ s) (pLrn k n x s).1 (dN μ (pLrn k n x s).2) := by
  refine Ct.of (ls := [.ref 82, .int x]) rfl (Nat.le_of_ble_eq_true rfl) rfl (fun X => ?_)
  refine r_aload_n 0 d_M_plainLearns_0 rfl rfl ?_
  refine r_bipush (11) d_M_plainLearns_1 (by decide) ?_
  refine r_callVv (c_M_ran _ _ _ hs) lk_M_326 (by first | with_reducible assumption | rfl) d_M_plainLearns_3 rfl rfl (Nat.le_of_ble_eq_true rfl) (by decide) ?_
  refine r_aload_n 0 d_M_plainLearns_6 rfl rfl ?_
  refine r_iload_n 1 d_M_plainLearns_7 rfl rfl ?_
  refine r_callVi (c_M_saysIt hk hn _ _ (begD_le hs)) lk_M_341 (by first | with_reducible assumption | rfl) d_M_plainLearns_8 rfl rfl (Nat.le_of_ble_eq_true rfl) (by decide) ?_
  refine r_iconst 2 d_M_plainLearns_11 rfl ?_
  refine r_imul d_M_plainLearns_12 ?_
  refine r_iret .int d_M_plainLearns_13 rfl rfl ?_
  exact ⟨rfl, rfl⟩
set_option maxHeartbeats 400000 in
theorem c_M_learnsIt {μ : Me} {k n a : Int32} (hk : μ.1 82 31 = k) (hn : μ.1 82 32 = n) (ha : μ.1 82 33 = a) (x : Int32) (s : DS) (hs : s.2.1 ≤ 30) : CtI m_M_learnsIt 5 [.ref 82, .int x] (dN μ s) (lrnP k n a x s).1 (dN μ (lrnP k n a x s).2) := by
  refine Ct.of (ls := [.ref 82, .int x, flr]) rfl (Nat.le_of_ble_eq_true rfl) rfl (fun X => ?_)
  refine r_aload_n 0 d_M_learnsIt_0 rfl rfl ?_
  refine r_getI fl_M_335 (by first | with_reducible assumption | rfl) rfl d_M_learnsIt_1 ?_
  refine r_iconst 1 d_M_learnsIt_4 rfl ?_
  rw [dN_lo (by decide) (by decide), hk]
  refine r_icmp_eq d_M_learnsIt_5 (fun h5 => ?_) (fun h5 => ?_)
  · refine r_aload_n 0 d_M_learnsIt_16 rfl rfl ?_
    refine r_bipush (20) d_M_learnsIt_17 (by decide) ?_
    refine r_callVv (c_M_ran _ _ _ hs) lk_M_326 (by first | with_reducible assumption | rfl) d_M_learnsIt_19 rfl rfl (Nat.le_of_ble_eq_true rfl) (by decide) ?_
    refine r_aload_n 0 d_M_learnsIt_22 rfl rfl ?_
    refine r_iload_n 1 d_M_learnsIt_23 rfl rfl ?_
    refine r_callVi (c_M_plainLearns hk hn _ _ (begD_le hs)) lk_M_344 (by first | with_reducible assumption | rfl) d_M_learnsIt_24 rfl rfl (Nat.le_of_ble_eq_true rfl) (by decide) ?_
    refine r_aload_n 0 d_M_learnsIt_27 rfl rfl ?_
    refine r_getI fl_M_347 (by first | with_reducible assumption | rfl) rfl d_M_learnsIt_28 ?_
    rw [dN_lo (by decide) (by decide), ha]
    refine r_isub d_M_learnsIt_31 ?_
    refine r_iret .int d_M_learnsIt_32 rfl rfl ?_
    first
      | (have z : k = 1 := h5; rw [lrnP, if_pos (Or.inl z)]; exact ⟨rfl, rfl⟩)
      | (have z : k = 4 := h13; rw [lrnP, if_pos (Or.inr z)]; exact ⟨rfl, rfl⟩)
      | (have z : k = 3 := h38; rw [lrnP, if_neg (by rw [z]; decide), if_pos z]; exact ⟨rfl, rfl⟩)
      | (have z : ¬ k = 3 := h38; have z1 : ¬ k = 4 := h13; rw [lrnP, if_neg (fun y => y.elim h5 z1), if_neg z]; exact ⟨rfl, rfl⟩)
  · refine r_aload_n 0 d_M_learnsIt_8 rfl rfl ?_
    refine r_getI fl_M_335 (by first | with_reducible assumption | rfl) rfl d_M_learnsIt_9 ?_
    refine r_iconst 4 d_M_learnsIt_12 rfl ?_
    rw [dN_lo (by decide) (by decide), hk]
    refine r_icmp_ne d_M_learnsIt_13 (fun h13 => ?_) (fun h13 => ?_)
    · refine r_aload_n 0 d_M_learnsIt_33 rfl rfl ?_
      refine r_getI fl_M_335 (by first | with_reducible assumption | rfl) rfl d_M_learnsIt_34 ?_
      refine r_iconst 3 d_M_learnsIt_37 rfl ?_
      rw [dN_lo (by decide) (by decide), hk]
      refine r_icmp_ne d_M_learnsIt_38 (fun h38 => ?_) (fun h38 => ?_)
      · refine r_aload_n 0 d_M_learnsIt_64 rfl rfl ?_
        refine r_iload_n 1 d_M_learnsIt_65 rfl rfl ?_
        refine r_callVi (c_M_plainLearns hk hn _ _ hs) lk_M_344 (by first | with_reducible assumption | rfl) d_M_learnsIt_66 rfl rfl (Nat.le_of_ble_eq_true rfl) (by decide) ?_
        refine r_iret .int d_M_learnsIt_69 rfl rfl ?_
        first
          | (have z : k = 1 := h5; rw [lrnP, if_pos (Or.inl z)]; exact ⟨rfl, rfl⟩)
          | (have z : k = 4 := h13; rw [lrnP, if_pos (Or.inr z)]; exact ⟨rfl, rfl⟩)
          | (have z : k = 3 := h38; rw [lrnP, if_neg (by rw [z]; decide), if_pos z]; exact ⟨rfl, rfl⟩)
          | (have z : ¬ k = 3 := h38; have z1 : ¬ k = 4 := h13; rw [lrnP, if_neg (fun y => y.elim h5 z1), if_neg z]; exact ⟨rfl, rfl⟩)
      · refine r_aload_n 0 d_M_learnsIt_41 rfl rfl ?_
        refine r_bipush (41) d_M_learnsIt_42 (by decide) ?_
        refine r_callVv (c_M_ran _ _ _ hs) lk_M_326 (by first | with_reducible assumption | rfl) d_M_learnsIt_44 rfl rfl (Nat.le_of_ble_eq_true rfl) (by decide) ?_
        refine r_aload_n 0 d_M_learnsIt_47 rfl rfl ?_
        refine r_iload_n 1 d_M_learnsIt_48 rfl rfl ?_
        refine r_callVi (c_M_plainLearns hk hn _ _ (begD_le hs)) lk_M_344 (by first | with_reducible assumption | rfl) d_M_learnsIt_49 rfl rfl (Nat.le_of_ble_eq_true rfl) (by decide) ?_
        refine r_istore_n 2 [_, _, _] d_M_learnsIt_52 rfl (by decide) rfl ?_
        refine r_iload_n 2 d_M_learnsIt_53 rfl rfl ?_
        refine r_aload_n 0 d_M_learnsIt_54 rfl rfl ?_
        refine r_aload_n 0 d_M_learnsIt_55 rfl rfl ?_
        refine r_getI fl_M_329 (by first | with_reducible assumption | rfl) rfl d_M_learnsIt_56 ?_
        rw [dN_lo (by decide) (by decide), hn]
        refine r_callVi (c_M_saysIt hk hn _ _ (pLrn_l (begD_le hs))) lk_M_341 (by first | with_reducible assumption | rfl) d_M_learnsIt_59 rfl rfl (Nat.le_of_ble_eq_true rfl) (by decide) ?_
        refine r_iadd d_M_learnsIt_62 ?_
        refine r_iret .int d_M_learnsIt_63 rfl rfl ?_
        first
          | (have z : k = 1 := h5; rw [lrnP, if_pos (Or.inl z)]; exact ⟨rfl, rfl⟩)
          | (have z : k = 4 := h13; rw [lrnP, if_pos (Or.inr z)]; exact ⟨rfl, rfl⟩)
          | (have z : k = 3 := h38; rw [lrnP, if_neg (by rw [z]; decide), if_pos z]; exact ⟨rfl, rfl⟩)
          | (have z : ¬ k = 3 := h38; have z1 : ¬ k = 4 := h13; rw [lrnP, if_neg (fun y => y.elim h5 z1), if_neg z]; exact ⟨rfl, rfl⟩)
    · refine r_aload_n 0 d_M_learnsIt_16 rfl rfl ?_
      refine r_bipush (20) d_M_learnsIt_17 (by decide) ?_
      refine r_callVv (c_M_ran _ _ _ hs) lk_M_326 (by first | with_reducible assumption | rfl) d_M_learnsIt_19 rfl rfl (Nat.le_of_ble_eq_true rfl) (by decide) ?_
      refine r_aload_n 0 d_M_learnsIt_22 rfl rfl ?_
      refine r_iload_n 1 d_M_learnsIt_23 rfl rfl ?_
      refine r_callVi (c_M_plainLearns hk hn _ _ (begD_le hs)) lk_M_344 (by first | with_reducible assumption | rfl) d_M_learnsIt_24 rfl rfl (Nat.le_of_ble_eq_true rfl) (by decide) ?_
      refine r_aload_n 0 d_M_learnsIt_27 rfl rfl ?_
      refine r_getI fl_M_347 (by first | with_reducible assumption | rfl) rfl d_M_learnsIt_28 ?_
      rw [dN_lo (by decide) (by decide), ha]
      refine r_isub d_M_learnsIt_31 ?_
      refine r_iret .int d_M_learnsIt_32 rfl rfl ?_
      first
        | (have z : k = 1 := h5; rw [lrnP, if_pos (Or.inl z)]; exact ⟨rfl, rfl⟩)
        | (have z : k = 4 := h13; rw [lrnP, if_pos (Or.inr z)]; exact ⟨rfl, rfl⟩)
        | (have z : k = 3 := h38; rw [lrnP, if_neg (by rw [z]; decide), if_pos z]; exact ⟨rfl, rfl⟩)
        | (have z : ¬ k = 3 := h38; have z1 : ¬ k = 4 := h13; rw [lrnP, if_neg (fun y => y.elim h5 z1), if_neg z]; exact ⟨rfl, rfl⟩)
set_option maxHeartbeats 400000 in
theorem c_M_plainShares {μ : Me} {n a : Int32} (hn : μ.1 82 32 = n) (ha : μ.1 82 33 = a) (x : Int32) (s : DS) (hs : s.2.1 ≤ 30) : CtI m_M_plainShares 1 [.ref 82, .int x] (dN μ s) (pShr n a x s).1 (dN μ (pShr n a x s).2) := by
  refine Ct.of (ls := [.ref 82, .int x]) rfl (Nat.le_of_ble_eq_true rfl) rfl (fun X => ?_)
  have pt : ∀ s : DS, uI (dN μ s) 82 36 1 = dN μ (true, s.2) := fun s => by
    refine Me_ext (fun c' x => ?_) (fun _ _ => rfl)
    by_cases h1 : c' = 82
    · subst h1
      by_cases h6 : x = 36
      · subst h6; rw [uI_at, dN_36]; rfl
      · rw [uI_off h6]
        by_cases h5 : x = 35
        · subst h5; rw [dN_35, dN_35]
        · rw [dN_lo h5 h6, dN_lo h5 h6]
    · rw [uI_ne h1]
      by_cases h2 : c' = 99
      · subst h2; rw [dN_99, dN_99]
      · rw [dN_ne h1 h2, dN_ne h1 h2]
  by_cases han : a = n
  · rw [pShr, if_pos han, ← pt]
    refine r_aload_n 0 d_M_plainShares_0 rfl rfl ?_
    refine r_bipush (12) d_M_plainShares_1 (by decide) ?_
    refine r_callVv (c_M_ran _ _ _ hs) lk_M_326 (by first | with_reducible assumption | rfl) d_M_plainShares_3 rfl rfl (Nat.le_of_ble_eq_true rfl) (by decide) ?_
    refine r_aload_n 0 d_M_plainShares_6 rfl rfl ?_
    refine r_getI fl_M_347 (by first | with_reducible assumption | rfl) rfl d_M_plainShares_7 ?_
    rw [dN_lo (by decide) (by decide), ha]
    refine r_aload_n 0 d_M_plainShares_10 rfl rfl ?_
    refine r_getI fl_M_329 (by first | with_reducible assumption | rfl) rfl d_M_plainShares_11 ?_
    rw [dN_lo (by decide) (by decide), hn]
    refine r_icmp_ne d_M_plainShares_14 (fun h14 => absurd han h14) (fun h14 => ?_)
    refine r_aload_n 0 d_M_plainShares_17 rfl rfl ?_
    refine r_iconst 1 d_M_plainShares_18 rfl ?_
    refine r_putZ fp_M_350 (by first | with_reducible assumption | rfl) rfl (by first | exact Or.inl rfl | exact Or.inr rfl | assumption) d_M_plainShares_19 ?_
    refine r_iconst 0 d_M_plainShares_22 rfl ?_
    refine r_iret .int d_M_plainShares_23 rfl rfl ?_
    exact ⟨rfl, rfl⟩
  · rw [pShr, if_neg han]
    refine r_aload_n 0 d_M_plainShares_0 rfl rfl ?_
    refine r_bipush (12) d_M_plainShares_1 (by decide) ?_
    refine r_callVv (c_M_ran _ _ _ hs) lk_M_326 (by first | with_reducible assumption | rfl) d_M_plainShares_3 rfl rfl (Nat.le_of_ble_eq_true rfl) (by decide) ?_
    refine r_aload_n 0 d_M_plainShares_6 rfl rfl ?_
    refine r_getI fl_M_347 (by first | with_reducible assumption | rfl) rfl d_M_plainShares_7 ?_
    rw [dN_lo (by decide) (by decide), ha]
    refine r_aload_n 0 d_M_plainShares_10 rfl rfl ?_
    refine r_getI fl_M_329 (by first | with_reducible assumption | rfl) rfl d_M_plainShares_11 ?_
    rw [dN_lo (by decide) (by decide), hn]
    refine r_icmp_ne d_M_plainShares_14 (fun h14 => ?_) (fun h14 => absurd h14 han)
    refine r_iload_n 1 d_M_plainShares_24 rfl rfl ?_
    refine r_aload_n 0 d_M_plainShares_25 rfl rfl ?_
    refine r_getI fl_M_347 (by first | with_reducible assumption | rfl) rfl d_M_plainShares_26 ?_
    rw [dN_lo (by decide) (by decide), ha]
    refine r_aload_n 0 d_M_plainShares_29 rfl rfl ?_
    refine r_getI fl_M_329 (by first | with_reducible assumption | rfl) rfl d_M_plainShares_30 ?_
    rw [dN_lo (by decide) (by decide), hn]
    refine r_isub d_M_plainShares_33 ?_
    refine r_idiv d_M_plainShares_34 (fun z => han (by grind)) ?_
    refine r_iret .int d_M_plainShares_35 rfl rfl ?_
    exact ⟨rfl, rfl⟩
set_option maxHeartbeats 400000 in
theorem c_M_sharesIt {μ : Me} {k n a : Int32} (hk : μ.1 82 31 = k) (hn : μ.1 82 32 = n) (ha : μ.1 82 33 = a) (x : Int32) (s : DS) (hs : s.2.1 ≤ 30) : CtI m_M_sharesIt 4 [.ref 82, .int x] (dN μ s) (shrP k n a x s).1 (dN μ (shrP k n a x s).2) := by
  refine Ct.of (ls := [.ref 82, .int x, flr]) rfl (Nat.le_of_ble_eq_true rfl) rfl (fun X => ?_)
  refine r_aload_n 0 d_M_sharesIt_0 rfl rfl ?_
  refine r_getI fl_M_335 (by first | with_reducible assumption | rfl) rfl d_M_sharesIt_1 ?_
  refine r_iconst 4 d_M_sharesIt_4 rfl ?_
  rw [dN_lo (by decide) (by decide), hk]
  refine r_icmp_ne d_M_sharesIt_5 (fun h5 => ?_) (fun h5 => ?_)
  · refine r_aload_n 0 d_M_sharesIt_24 rfl rfl ?_
    refine r_getI fl_M_335 (by first | with_reducible assumption | rfl) rfl d_M_sharesIt_25 ?_
    refine r_iconst 5 d_M_sharesIt_28 rfl ?_
    rw [dN_lo (by decide) (by decide), hk]
    refine r_icmp_ne d_M_sharesIt_29 (fun h29 => ?_) (fun h29 => ?_)
    · refine r_aload_n 0 d_M_sharesIt_66 rfl rfl ?_
      refine r_iload_n 1 d_M_sharesIt_67 rfl rfl ?_
      refine r_callVi (c_M_plainShares hn ha _ _ hs) lk_M_353 (by first | with_reducible assumption | rfl) d_M_sharesIt_68 rfl rfl (Nat.le_of_ble_eq_true rfl) (by decide) ?_
      refine r_iret .int d_M_sharesIt_71 rfl rfl ?_
      first
        | (have z : k = 4 := h5; rw [shrP, if_pos z]; exact ⟨rfl, rfl⟩)
        | (have z : k = 5 := h29; have y := bz_np h48; rw [shrP, if_neg (by rw [z]; decide), if_pos z, if_neg y]; exact ⟨rfl, rfl⟩)
        | (have z : k = 5 := h29; have y := bz_p h48; rw [shrP, if_neg (by rw [z]; decide), if_pos z, if_pos y]; exact ⟨rfl, rfl⟩)
        | (have z : ¬ k = 5 := h29; rw [shrP, if_neg h5, if_neg z]; exact ⟨rfl, rfl⟩)
    · refine r_aload_n 0 d_M_sharesIt_32 rfl rfl ?_
      refine r_bipush (61) d_M_sharesIt_33 (by decide) ?_
      refine r_callVv (c_M_ran _ _ _ hs) lk_M_326 (by first | with_reducible assumption | rfl) d_M_sharesIt_35 rfl rfl (Nat.le_of_ble_eq_true rfl) (by decide) ?_
      refine r_aload_n 0 d_M_sharesIt_38 rfl rfl ?_
      refine r_iload_n 1 d_M_sharesIt_39 rfl rfl ?_
      refine r_callVi (c_M_plainShares hn ha _ _ (begD_le hs)) lk_M_353 (by first | with_reducible assumption | rfl) d_M_sharesIt_40 rfl rfl (Nat.le_of_ble_eq_true rfl) (by decide) ?_
      refine r_istore_n 2 [_, _, _] d_M_sharesIt_43 rfl (by decide) rfl ?_
      refine r_aload_n 0 d_M_sharesIt_44 rfl rfl ?_
      refine r_getI fl_M_350 (by first | with_reducible assumption | rfl) rfl d_M_sharesIt_45 ?_
      rw [dN_36]
      refine r_if_eq d_M_sharesIt_48 (fun h48 => ?_) (fun h48 => ?_)
      · refine r_iload_n 2 d_M_sharesIt_55 rfl rfl ?_
        refine r_aload_n 0 d_M_sharesIt_56 rfl rfl ?_
        refine r_aload_n 0 d_M_sharesIt_57 rfl rfl ?_
        refine r_getI fl_M_347 (by first | with_reducible assumption | rfl) rfl d_M_sharesIt_58 ?_
        rw [dN_lo (by decide) (by decide), ha]
        refine r_callVi (c_M_saysIt hk hn _ _ (pShr_l (begD_le hs))) lk_M_341 (by first | with_reducible assumption | rfl) d_M_sharesIt_61 rfl rfl (Nat.le_of_ble_eq_true rfl) (by decide) ?_
        refine r_iadd d_M_sharesIt_64 ?_
        refine r_iret .int d_M_sharesIt_65 rfl rfl ?_
        first
          | (have z : k = 4 := h5; rw [shrP, if_pos z]; exact ⟨rfl, rfl⟩)
          | (have z : k = 5 := h29; have y := bz_np h48; rw [shrP, if_neg (by rw [z]; decide), if_pos z, if_neg y]; exact ⟨rfl, rfl⟩)
          | (have z : k = 5 := h29; have y := bz_p h48; rw [shrP, if_neg (by rw [z]; decide), if_pos z, if_pos y]; exact ⟨rfl, rfl⟩)
          | (have z : ¬ k = 5 := h29; rw [shrP, if_neg h5, if_neg z]; exact ⟨rfl, rfl⟩)
      · refine r_iconst 0 d_M_sharesIt_51 rfl ?_
        refine r_goto d_M_sharesIt_52 ?_
        refine r_iret .int d_M_sharesIt_65 rfl rfl ?_
        first
          | (have z : k = 4 := h5; rw [shrP, if_pos z]; exact ⟨rfl, rfl⟩)
          | (have z : k = 5 := h29; have y := bz_np h48; rw [shrP, if_neg (by rw [z]; decide), if_pos z, if_neg y]; exact ⟨rfl, rfl⟩)
          | (have z : k = 5 := h29; have y := bz_p h48; rw [shrP, if_neg (by rw [z]; decide), if_pos z, if_pos y]; exact ⟨rfl, rfl⟩)
          | (have z : ¬ k = 5 := h29; rw [shrP, if_neg h5, if_neg z]; exact ⟨rfl, rfl⟩)
  · refine r_aload_n 0 d_M_sharesIt_8 rfl rfl ?_
    refine r_bipush (50) d_M_sharesIt_9 (by decide) ?_
    refine r_callVv (c_M_ran _ _ _ hs) lk_M_326 (by first | with_reducible assumption | rfl) d_M_sharesIt_11 rfl rfl (Nat.le_of_ble_eq_true rfl) (by decide) ?_
    refine r_aload_n 0 d_M_sharesIt_14 rfl rfl ?_
    refine r_iload_n 1 d_M_sharesIt_15 rfl rfl ?_
    refine r_iconst 2 d_M_sharesIt_16 rfl ?_
    refine r_iadd d_M_sharesIt_17 ?_
    refine r_callVi (c_M_plainShares hn ha _ _ (begD_le hs)) lk_M_353 (by first | with_reducible assumption | rfl) d_M_sharesIt_18 rfl rfl (Nat.le_of_ble_eq_true rfl) (by decide) ?_
    refine r_iconst 1 d_M_sharesIt_21 rfl ?_
    refine r_ixor d_M_sharesIt_22 ?_
    refine r_iret .int d_M_sharesIt_23 rfl rfl ?_
    first
      | (have z : k = 4 := h5; rw [shrP, if_pos z]; exact ⟨rfl, rfl⟩)
      | (have z : k = 5 := h29; have y := bz_np h48; rw [shrP, if_neg (by rw [z]; decide), if_pos z, if_neg y]; exact ⟨rfl, rfl⟩)
      | (have z : k = 5 := h29; have y := bz_p h48; rw [shrP, if_neg (by rw [z]; decide), if_pos z, if_pos y]; exact ⟨rfl, rfl⟩)
      | (have z : ¬ k = 5 := h29; rw [shrP, if_neg h5, if_neg z]; exact ⟨rfl, rfl⟩)
set_option maxHeartbeats 400000 in
theorem c_M_plainTells {μ : Me} {k n a : Int32} (hk : μ.1 82 31 = k) (hn : μ.1 82 32 = n) (ha : μ.1 82 33 = a) (x : Int32) (s : DS) (hs : s.2.1 ≤ 30) : CtI m_M_plainTells 6 [.ref 82, .int x] (dN μ s) (pTel k n a x s).1 (dN μ (pTel k n a x s).2) := by
  refine Ct.of (ls := [.ref 82, .int x]) rfl (Nat.le_of_ble_eq_true rfl) rfl (fun X => ?_)
  refine r_aload_n 0 d_M_plainTells_0 rfl rfl ?_
  refine r_bipush (13) d_M_plainTells_1 (by decide) ?_
  refine r_callVv (c_M_ran _ _ _ hs) lk_M_326 (by first | with_reducible assumption | rfl) d_M_plainTells_3 rfl rfl (Nat.le_of_ble_eq_true rfl) (by decide) ?_
  refine r_aload_n 0 d_M_plainTells_6 rfl rfl ?_
  refine r_iload_n 1 d_M_plainTells_7 rfl rfl ?_
  refine r_callVi (c_M_learnsIt hk hn ha _ _ (begD_le hs)) lk_M_356 (by first | with_reducible assumption | rfl) d_M_plainTells_8 rfl rfl (Nat.le_of_ble_eq_true rfl) (by decide) ?_
  refine r_aload_n 0 d_M_plainTells_11 rfl rfl ?_
  refine r_getI fl_M_347 (by first | with_reducible assumption | rfl) rfl d_M_plainTells_12 ?_
  rw [dN_lo (by decide) (by decide), ha]
  refine r_ixor d_M_plainTells_15 ?_
  refine r_iret .int d_M_plainTells_16 rfl rfl ?_
  exact ⟨rfl, rfl⟩
set_option maxHeartbeats 400000 in
theorem c_M_tellsIt {μ : Me} {k n a : Int32} (hk : μ.1 82 31 = k) (hn : μ.1 82 32 = n) (ha : μ.1 82 33 = a) (x : Int32) (s : DS) (hs : s.2.1 ≤ 30) : CtI m_M_tellsIt 7 [.ref 82, .int x] (dN μ s) (telP k n a x s).1 (dN μ (telP k n a x s).2) := by
  refine Ct.of (ls := [.ref 82, .int x, flr]) rfl (Nat.le_of_ble_eq_true rfl) rfl (fun X => ?_)
  refine r_aload_n 0 d_M_tellsIt_0 rfl rfl ?_
  refine r_getI fl_M_335 (by first | with_reducible assumption | rfl) rfl d_M_tellsIt_1 ?_
  refine r_iconst 2 d_M_tellsIt_4 rfl ?_
  rw [dN_lo (by decide) (by decide), hk]
  refine r_icmp_eq d_M_tellsIt_5 (fun h5 => ?_) (fun h5 => ?_)
  · refine r_aload_n 0 d_M_tellsIt_16 rfl rfl ?_
    refine r_bipush (31) d_M_tellsIt_17 (by decide) ?_
    refine r_callVv (c_M_ran _ _ _ hs) lk_M_326 (by first | with_reducible assumption | rfl) d_M_tellsIt_19 rfl rfl (Nat.le_of_ble_eq_true rfl) (by decide) ?_
    refine r_aload_n 0 d_M_tellsIt_22 rfl rfl ?_
    refine r_iload_n 1 d_M_tellsIt_23 rfl rfl ?_
    refine r_callVi (c_M_plainTells hk hn ha _ _ (begD_le hs)) lk_M_359 (by first | with_reducible assumption | rfl) d_M_tellsIt_24 rfl rfl (Nat.le_of_ble_eq_true rfl) (by decide) ?_
    refine r_istore_n 2 [_, _, _] d_M_tellsIt_27 rfl (by decide) rfl ?_
    refine r_iload_n 2 d_M_tellsIt_28 rfl rfl ?_
    refine r_aload_n 0 d_M_tellsIt_29 rfl rfl ?_
    refine r_aload_n 0 d_M_tellsIt_30 rfl rfl ?_
    refine r_getI fl_M_329 (by first | with_reducible assumption | rfl) rfl d_M_tellsIt_31 ?_
    rw [dN_lo (by decide) (by decide), hn]
    refine r_callVi (c_M_sharesIt hk hn ha _ _ (pTel_l (begD_le hs))) lk_M_362 (by first | with_reducible assumption | rfl) d_M_tellsIt_34 rfl rfl (Nat.le_of_ble_eq_true rfl) (by decide) ?_
    refine r_iadd d_M_tellsIt_37 ?_
    refine r_iret .int d_M_tellsIt_38 rfl rfl ?_
    first
      | (have z : k = 2 := h5; rw [telP, if_pos (Or.inl z)]; exact ⟨rfl, rfl⟩)
      | (have z : k = 3 := h13; rw [telP, if_pos (Or.inr z)]; exact ⟨rfl, rfl⟩)
      | (have z : k = 5 := h44; rw [telP, if_neg (by rw [z]; decide), if_pos z]; exact ⟨rfl, rfl⟩)
      | (have z : ¬ k = 5 := h44; have z1 : ¬ k = 3 := h13; rw [telP, if_neg (fun y => y.elim h5 z1), if_neg z]; exact ⟨rfl, rfl⟩)
  · refine r_aload_n 0 d_M_tellsIt_8 rfl rfl ?_
    refine r_getI fl_M_335 (by first | with_reducible assumption | rfl) rfl d_M_tellsIt_9 ?_
    refine r_iconst 3 d_M_tellsIt_12 rfl ?_
    rw [dN_lo (by decide) (by decide), hk]
    refine r_icmp_ne d_M_tellsIt_13 (fun h13 => ?_) (fun h13 => ?_)
    · refine r_aload_n 0 d_M_tellsIt_39 rfl rfl ?_
      refine r_getI fl_M_335 (by first | with_reducible assumption | rfl) rfl d_M_tellsIt_40 ?_
      refine r_iconst 5 d_M_tellsIt_43 rfl ?_
      rw [dN_lo (by decide) (by decide), hk]
      refine r_icmp_ne d_M_tellsIt_44 (fun h44 => ?_) (fun h44 => ?_)
      · refine r_aload_n 0 d_M_tellsIt_61 rfl rfl ?_
        refine r_iload_n 1 d_M_tellsIt_62 rfl rfl ?_
        refine r_callVi (c_M_plainTells hk hn ha _ _ hs) lk_M_359 (by first | with_reducible assumption | rfl) d_M_tellsIt_63 rfl rfl (Nat.le_of_ble_eq_true rfl) (by decide) ?_
        refine r_iret .int d_M_tellsIt_66 rfl rfl ?_
        first
          | (have z : k = 2 := h5; rw [telP, if_pos (Or.inl z)]; exact ⟨rfl, rfl⟩)
          | (have z : k = 3 := h13; rw [telP, if_pos (Or.inr z)]; exact ⟨rfl, rfl⟩)
          | (have z : k = 5 := h44; rw [telP, if_neg (by rw [z]; decide), if_pos z]; exact ⟨rfl, rfl⟩)
          | (have z : ¬ k = 5 := h44; have z1 : ¬ k = 3 := h13; rw [telP, if_neg (fun y => y.elim h5 z1), if_neg z]; exact ⟨rfl, rfl⟩)
      · refine r_aload_n 0 d_M_tellsIt_47 rfl rfl ?_
        refine r_bipush (60) d_M_tellsIt_48 (by decide) ?_
        refine r_callVv (c_M_ran _ _ _ hs) lk_M_326 (by first | with_reducible assumption | rfl) d_M_tellsIt_50 rfl rfl (Nat.le_of_ble_eq_true rfl) (by decide) ?_
        refine r_aload_n 0 d_M_tellsIt_53 rfl rfl ?_
        refine r_iload_n 1 d_M_tellsIt_54 rfl rfl ?_
        refine r_callVi (c_M_plainTells hk hn ha _ _ (begD_le hs)) lk_M_359 (by first | with_reducible assumption | rfl) d_M_tellsIt_55 rfl rfl (Nat.le_of_ble_eq_true rfl) (by decide) ?_
        refine r_iconst 2 d_M_tellsIt_58 rfl ?_
        refine r_imul d_M_tellsIt_59 ?_
        refine r_iret .int d_M_tellsIt_60 rfl rfl ?_
        first
          | (have z : k = 2 := h5; rw [telP, if_pos (Or.inl z)]; exact ⟨rfl, rfl⟩)
          | (have z : k = 3 := h13; rw [telP, if_pos (Or.inr z)]; exact ⟨rfl, rfl⟩)
          | (have z : k = 5 := h44; rw [telP, if_neg (by rw [z]; decide), if_pos z]; exact ⟨rfl, rfl⟩)
          | (have z : ¬ k = 5 := h44; have z1 : ¬ k = 3 := h13; rw [telP, if_neg (fun y => y.elim h5 z1), if_neg z]; exact ⟨rfl, rfl⟩)
    · refine r_aload_n 0 d_M_tellsIt_16 rfl rfl ?_
      refine r_bipush (31) d_M_tellsIt_17 (by decide) ?_
      refine r_callVv (c_M_ran _ _ _ hs) lk_M_326 (by first | with_reducible assumption | rfl) d_M_tellsIt_19 rfl rfl (Nat.le_of_ble_eq_true rfl) (by decide) ?_
      refine r_aload_n 0 d_M_tellsIt_22 rfl rfl ?_
      refine r_iload_n 1 d_M_tellsIt_23 rfl rfl ?_
      refine r_callVi (c_M_plainTells hk hn ha _ _ (begD_le hs)) lk_M_359 (by first | with_reducible assumption | rfl) d_M_tellsIt_24 rfl rfl (Nat.le_of_ble_eq_true rfl) (by decide) ?_
      refine r_istore_n 2 [_, _, _] d_M_tellsIt_27 rfl (by decide) rfl ?_
      refine r_iload_n 2 d_M_tellsIt_28 rfl rfl ?_
      refine r_aload_n 0 d_M_tellsIt_29 rfl rfl ?_
      refine r_aload_n 0 d_M_tellsIt_30 rfl rfl ?_
      refine r_getI fl_M_329 (by first | with_reducible assumption | rfl) rfl d_M_tellsIt_31 ?_
      rw [dN_lo (by decide) (by decide), hn]
      refine r_callVi (c_M_sharesIt hk hn ha _ _ (pTel_l (begD_le hs))) lk_M_362 (by first | with_reducible assumption | rfl) d_M_tellsIt_34 rfl rfl (Nat.le_of_ble_eq_true rfl) (by decide) ?_
      refine r_iadd d_M_tellsIt_37 ?_
      refine r_iret .int d_M_tellsIt_38 rfl rfl ?_
      first
        | (have z : k = 2 := h5; rw [telP, if_pos (Or.inl z)]; exact ⟨rfl, rfl⟩)
        | (have z : k = 3 := h13; rw [telP, if_pos (Or.inr z)]; exact ⟨rfl, rfl⟩)
        | (have z : k = 5 := h44; rw [telP, if_neg (by rw [z]; decide), if_pos z]; exact ⟨rfl, rfl⟩)
        | (have z : ¬ k = 5 := h44; have z1 : ¬ k = 3 := h13; rw [telP, if_neg (fun y => y.elim h5 z1), if_neg z]; exact ⟨rfl, rfl⟩)
