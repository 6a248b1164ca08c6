/-! numbers and names of a TEXT -/
theorem nE_dig {u : Nat → Nat} {N p j : Nat} (h1 : sb u N p ≤ j) (h2 : j < nE u N p) : j < N ∧ 48 ≤ u j ∧ u j ≤ 57 := by
  have := sc_all j h1 h2
  exact ⟨this.1, of_decide_eq_true this.2⟩
theorem wE_let {u : Nat → Nat} {N p j : Nat} (h1 : sb u N p ≤ j) (h2 : j < wE u N p) : j < N ∧ 97 ≤ u j ∧ u j ≤ 122 := by
  have := sc_all j h1 h2
  exact ⟨this.1, of_decide_eq_true this.2⟩
theorem nv_le {u : Nat → Nat} {b : Nat} : ∀ k, k ≤ 2 → (∀ j, j < k → 48 ≤ u (b + j) ∧ u (b + j) ≤ 57) → nvF u b k ≤ 99
  | 0, _, _ => by simp [nvF]
  | 1, _, h => by have := h 0 (by omega); simp only [nvF]; omega
  | 2, _, h => by have := h 0 (by omega); have := h 1 (by omega); simp only [nvF]; omega
  | _ + 3, h, _ => by omega
theorem nV_le {u : Nat → Nat} {N p : Nat} (h : nE u N p - sb u N p ≤ 2) : nV u N p ≤ 99 := nv_le _ h (fun j hj => (nE_dig (N := N) (p := p) (j := sb u N p + j) (by omega) (by omega)).2)
theorem sg_n {x : Nat} (h : x < 128) : sg x = nI x := by rw [sg, if_pos h]
theorem dig_e {a x : Nat} (h : 48 ≤ x ∧ x ≤ 57) : nI a * 10 + sg x - 48 = nI (a * 10 + (x - 48)) := by
  rw [sg_n (by omega)]
  show nI a * nI 10 + nI x - nI 48 = _
  rw [pk_mul, nI_add, pk_sub (by omega), show a * 10 + x - 48 = a * 10 + (x - 48) by omega]
set_option maxHeartbeats 400000 in
theorem c_Text_rn_loop (X : Nat × (Nat → Int32)) {μ : Me} {u : Nat → Nat} {N p lo hi : Nat} (h : TpC μ u N p) (hd : nE u N p - sb u N p ≤ 2) (post : Option Value → Me → Prop) (hk : Wa X m_Text_readNumber 1 74 [.ref 47, .int (nI lo), .int (nI hi), .int (nI (nE u N p)), .int (nI (nE u N p - sb u N p)), .int (nI (nV u N p)), .int (nI (nE u N p))] [] (pl μ (sb u N p)) post) : ∀ k, k ≤ nE u N p - sb u N p → Wa X m_Text_readNumber 1 44 [.ref 47, .int (nI lo), .int (nI hi), .int (nI (nE u N p)), .int (nI (nE u N p - sb u N p)), .int (nI (nvF u (sb u N p) k)), .int (nI (sb u N p + k))] [] (pl μ (sb u N p)) post := by
  have h200 := h.2.1
  have hge := nE_ge (u := u) (N := N) (i := p)
  have hle := nE_le (u := u) h.2.2.2.2
  intro k hk2
  have key : ∀ r k, k + r = nE u N p - sb u N p → Wa X m_Text_readNumber 1 44 [.ref 47, .int (nI lo), .int (nI hi), .int (nI (nE u N p)), .int (nI (nE u N p - sb u N p)), .int (nI (nvF u (sb u N p) k)), .int (nI (sb u N p + k))] [] (pl μ (sb u N p)) post := by
    intro r
    induction r with
    | zero =>
      intro k hr
      have e1 : sb u N p + k = nE u N p := by omega
      have e2 : nvF u (sb u N p) k = nV u N p := by rw [nV, ← hr, Nat.add_zero]
      rw [e1, e2]
      refine r_iload 6 d_Text_readNumber_44 rfl ?_
      refine r_iload_n 3 d_Text_readNumber_46 rfl rfl ?_
      refine r_icmp_ge d_Text_readNumber_47 (fun h47 => ?_) (fun h47 => absurd (nI_le (Nat.le_refl _) (by omega)) h47)
      exact hk
    | succ r ih =>
      intro k hr
      have hlt : sb u N p + k < nE u N p := by omega
      obtain ⟨q1, q2⟩ := nE_dig (u := u) (N := N) (p := p) (j := sb u N p + k) (by omega) hlt
      have ih1 := ih (k + 1) (by omega)
      refine r_iload 6 d_Text_readNumber_44 rfl ?_
      refine r_iload_n 3 d_Text_readNumber_46 rfl rfl ?_
      refine r_icmp_ge d_Text_readNumber_47 (fun h47 => absurd h47 (nI_ge hlt (by omega))) (fun h47 => ?_)
      refine r_iload 5 d_Text_readNumber_50 rfl ?_
      refine r_bipush (10) d_Text_readNumber_52 (by decide) ?_
      refine r_imul d_Text_readNumber_54 ?_
      refine r_aload_n 0 d_Text_readNumber_55 rfl rfl ?_
      refine r_getR fl_Text_9 (by first | with_reducible assumption | rfl) rfl d_Text_readNumber_56 ?_
      refine r_iload 6 d_Text_readNumber_59 rfl ?_
      refine r_baldN (by first | with_reducible assumption | rfl) (show sb u N p + k < 200 by omega) d_Text_readNumber_61 ?_
      rw [h.b q1]
      refine r_iadd d_Text_readNumber_62 ?_
      refine r_bipush (48) d_Text_readNumber_63 (by decide) ?_
      refine r_isub d_Text_readNumber_65 ?_
      rw [dig_e q2]
      refine r_istore 5 [_, _, _, _, _, _, _] d_Text_readNumber_66 (by decide) rfl ?_
      first | refine r_iincN 6 [_, _, _, _, _, _, _] d_Text_readNumber_68 (by decide) rfl rfl ?_ | refine r_iinc 6 [_, _, _, _, _, _, _] (1) d_Text_readNumber_68 (by decide) (by decide) rfl rfl ?_
      refine r_goto d_Text_readNumber_71 ?_
      exact ih1
  exact key (nE u N p - sb u N p - k) k (by omega)
set_option maxHeartbeats 400000 in
theorem c_Text_rn_y {μ : Me} {u : Nat → Nat} {N p lo hi : Nat} (h : TpC μ u N p) (hh : hi ≤ 99) (hk : nuOk u N lo hi p) : CtI m_Text_readNumber 1 [.ref 47, .int (nI lo), .int (nI hi)] μ (nI (nV u N p)) (pl μ (nE u N p)) := by
  refine Ct.of (ls := [.ref 47, .int (nI lo), .int (nI hi), flr, flr, flr, flr]) rfl (Nat.le_of_ble_eq_true rfl) rfl (fun X => ?_)
  have h200 := h.2.1
  have hge := nE_ge (u := u) (N := N) (i := p)
  have hle := nE_le (u := u) h.2.2.2.2
  have hv := nV_le hk.1.2
  have cE : CtI m_Text_endOfRow 0 [.ref 47, .int 48, .int 57] (pl μ (sb u N p)) (nI (nE u N p)) (pl μ (sb u N p)) := c_Text_endOfRow (h.to (sb_le h.2.2.2.2)) 48 57 (dgP u) (dg_ok h)
  have hloop := c_Text_rn_loop X (lo := lo) (hi := hi) h hk.1.2 (fun r μ' => r = some (.int (nI (nV u N p))) ∧ μ' = pl μ (nE u N p)) (by
    refine r_iload 5 d_Text_readNumber_74 rfl ?_
    refine r_iload_n 1 d_Text_readNumber_76 rfl rfl ?_
    refine r_icmp_lt d_Text_readNumber_77 (fun h77 => absurd h77 (nI_nlt hk.2.1 (by omega))) (fun h77 => ?_)
    refine r_iload 5 d_Text_readNumber_80 rfl ?_
    refine r_iload_n 2 d_Text_readNumber_82 rfl rfl ?_
    refine r_icmp_le d_Text_readNumber_83 (fun h83 => ?_) (fun h83 => absurd (nI_le hk.2.2 (by omega)) h83)
    refine r_aload_n 0 d_Text_readNumber_88 rfl rfl ?_
    refine r_iload_n 3 d_Text_readNumber_89 rfl rfl ?_
    refine r_putI fp_Text_19 (by first | with_reducible assumption | rfl) rfl d_Text_readNumber_90 ?_
    refine r_iload 5 d_Text_readNumber_93 rfl ?_
    refine r_iret .int d_Text_readNumber_95 rfl rfl ?_
    exact ⟨rfl, pl_pl⟩
    ) 0 (Nat.zero_le _)
  refine r_aload_n 0 d_Text_readNumber_0 rfl rfl ?_
  refine r_callVv (c_Text_skipBlanks h) lk_Text_27 (by first | with_reducible assumption | rfl) d_Text_readNumber_1 rfl rfl (Nat.le_of_ble_eq_true rfl) (by decide) ?_
  refine r_aload_n 0 d_Text_readNumber_4 rfl rfl ?_
  refine r_bipush (48) d_Text_readNumber_5 (by decide) ?_
  refine r_bipush (57) d_Text_readNumber_7 (by decide) ?_
  refine r_callVi cE lk_Text_74 (by first | with_reducible assumption | rfl) d_Text_readNumber_9 rfl rfl (Nat.le_of_ble_eq_true rfl) (by decide) ?_
  refine r_istore_n 3 [_, _, _, _, _, _, _] d_Text_readNumber_12 rfl (by decide) rfl ?_
  refine r_iload_n 3 d_Text_readNumber_13 rfl rfl ?_
  refine r_aload_n 0 d_Text_readNumber_14 rfl rfl ?_
  refine r_getI fl_Text_19 (by first | with_reducible assumption | rfl) rfl d_Text_readNumber_15 ?_
  rw [pl_2]
  refine r_isub d_Text_readNumber_18 ?_
  rw [pk_sub hge]
  refine r_istore 4 [_, _, _, _, _, _, _] d_Text_readNumber_19 (by decide) rfl ?_
  refine r_iload 4 d_Text_readNumber_21 rfl ?_
  refine r_iconst 1 d_Text_readNumber_23 rfl ?_
  refine r_icmp_lt d_Text_readNumber_24 (fun h24 => absurd h24 (nI_nlt (a := nE u N p - sb u N p) (b := 1) hk.1.1 (by omega))) (fun h24 => ?_)
  refine r_iload 4 d_Text_readNumber_27 rfl ?_
  refine r_iconst 2 d_Text_readNumber_29 rfl ?_
  refine r_icmp_le d_Text_readNumber_30 (fun h30 => ?_) (fun h30 => absurd (nI_le (b := 2) hk.1.2 (by decide)) h30)
  refine r_iconst 0 d_Text_readNumber_35 rfl ?_
  refine r_istore 5 [_, _, _, _, _, _, _] d_Text_readNumber_36 (by decide) rfl ?_
  refine r_aload_n 0 d_Text_readNumber_38 rfl rfl ?_
  refine r_getI fl_Text_19 (by first | with_reducible assumption | rfl) rfl d_Text_readNumber_39 ?_
  rw [pl_2]
  refine r_istore 6 [_, _, _, _, _, _, _] d_Text_readNumber_42 (by decide) rfl ?_
  exact hloop
set_option maxHeartbeats 400000 in
theorem c_Text_rn_n {μ : Me} {u : Nat → Nat} {N p lo hi : Nat} (h : TpC μ u N p) (hh : hi ≤ 99) (hl : lo ≤ 99) (hk : ¬ nuOk u N lo hi p) : CtI m_Text_readNumber 1 [.ref 47, .int (nI lo), .int (nI hi)] μ (-1) (pl μ (sb u N p)) := by
  refine Ct.of (ls := [.ref 47, .int (nI lo), .int (nI hi), flr, flr, flr, flr]) rfl (Nat.le_of_ble_eq_true rfl) rfl (fun X => ?_)
  have h200 := h.2.1
  have hge := nE_ge (u := u) (N := N) (i := p)
  have hle := nE_le (u := u) h.2.2.2.2
  have cE : CtI m_Text_endOfRow 0 [.ref 47, .int 48, .int 57] (pl μ (sb u N p)) (nI (nE u N p)) (pl μ (sb u N p)) := c_Text_endOfRow (h.to (sb_le h.2.2.2.2)) 48 57 (dgP u) (dg_ok h)
  refine r_aload_n 0 d_Text_readNumber_0 rfl rfl ?_
  refine r_callVv (c_Text_skipBlanks h) lk_Text_27 (by first | with_reducible assumption | rfl) d_Text_readNumber_1 rfl rfl (Nat.le_of_ble_eq_true rfl) (by decide) ?_
  refine r_aload_n 0 d_Text_readNumber_4 rfl rfl ?_
  refine r_bipush (48) d_Text_readNumber_5 (by decide) ?_
  refine r_bipush (57) d_Text_readNumber_7 (by decide) ?_
  refine r_callVi cE lk_Text_74 (by first | with_reducible assumption | rfl) d_Text_readNumber_9 rfl rfl (Nat.le_of_ble_eq_true rfl) (by decide) ?_
  refine r_istore_n 3 [_, _, _, _, _, _, _] d_Text_readNumber_12 rfl (by decide) rfl ?_
  refine r_iload_n 3 d_Text_readNumber_13 rfl rfl ?_
  refine r_aload_n 0 d_Text_readNumber_14 rfl rfl ?_
  refine r_getI fl_Text_19 (by first | with_reducible assumption | rfl) rfl d_Text_readNumber_15 ?_
  rw [pl_2]
  refine r_isub d_Text_readNumber_18 ?_
  rw [pk_sub hge]
  refine r_istore 4 [_, _, _, _, _, _, _] d_Text_readNumber_19 (by decide) rfl ?_
  refine r_iload 4 d_Text_readNumber_21 rfl ?_
  refine r_iconst 1 d_Text_readNumber_23 rfl ?_
  refine r_icmp_lt d_Text_readNumber_24 (fun h24 => ?_) (fun h24 => ?_)
  · refine r_iconst (-1) d_Text_readNumber_33 rfl ?_
    refine r_iret .int d_Text_readNumber_34 rfl rfl ?_
    exact ⟨rfl, rfl⟩
  · refine r_iload 4 d_Text_readNumber_27 rfl ?_
    refine r_iconst 2 d_Text_readNumber_29 rfl ?_
    refine r_icmp_le d_Text_readNumber_30 (fun h30 => ?_) (fun h30 => ?_)
    · refine r_iconst 0 d_Text_readNumber_35 rfl ?_
      refine r_istore 5 [_, _, _, _, _, _, _] d_Text_readNumber_36 (by decide) rfl ?_
      refine r_aload_n 0 d_Text_readNumber_38 rfl rfl ?_
      refine r_getI fl_Text_19 (by first | with_reducible assumption | rfl) rfl d_Text_readNumber_39 ?_
      rw [pl_2]
      refine r_istore 6 [_, _, _, _, _, _, _] d_Text_readNumber_42 (by decide) rfl ?_
      have d1 : 1 ≤ nE u N p - sb u N p := by
        rcases Nat.lt_or_ge (nE u N p - sb u N p) 1 with z | z
        · exact absurd (nI_lt (b := 1) z (by decide)) h24
        · exact z
      have d2 : nE u N p - sb u N p ≤ 2 := n_le h30 rfl (show (2 : Int32) = nI 2 from rfl) (by omega) (by decide)
      have hv := nV_le d2
      refine c_Text_rn_loop X (lo := lo) (hi := hi) h d2 _ ?_ 0 (Nat.zero_le _)
      refine r_iload 5 d_Text_readNumber_74 rfl ?_
      refine r_iload_n 1 d_Text_readNumber_76 rfl rfl ?_
      refine r_icmp_lt d_Text_readNumber_77 (fun h77 => ?_) (fun h77 => ?_)
      · refine r_iconst (-1) d_Text_readNumber_86 rfl ?_
        refine r_iret .int d_Text_readNumber_87 rfl rfl ?_
        exact ⟨rfl, rfl⟩
      · have l1 : lo ≤ nV u N p := by
          rcases Nat.lt_or_ge (nV u N p) lo with z | z
          · exact absurd (nI_lt z (by omega)) h77
          · exact z
        refine r_iload 5 d_Text_readNumber_80 rfl ?_
        refine r_iload_n 2 d_Text_readNumber_82 rfl rfl ?_
        refine r_icmp_le d_Text_readNumber_83 (fun h83 => absurd h83 (fun z => hk ⟨⟨d1, d2⟩, l1, n_le z rfl rfl (by omega) (by omega)⟩)) (fun h83 => ?_)
        refine r_iconst (-1) d_Text_readNumber_86 rfl ?_
        refine r_iret .int d_Text_readNumber_87 rfl rfl ?_
        exact ⟨rfl, rfl⟩
    · refine r_iconst (-1) d_Text_readNumber_33 rfl ?_
      refine r_iret .int d_Text_readNumber_34 rfl rfl ?_
      exact ⟨rfl, rfl⟩
theorem ch_128 : ∀ q : Fin 4, ∀ j : Fin 4, chN q.val j.val < 128 := by decide
set_option maxHeartbeats 400000 in
theorem c_Text_nm_y {μ : Me} {u : Nat → Nat} {N p q : Nat} (hsq : q < 4) (h : TpC μ u N p) (hk : nmOk u N q p) : CtI m_Text_isNextName 4 [.ref 47, .ref (2000 + q)] μ 1 (pl μ (wE u N p)) := by
  refine Ct.of (ls := [.ref 47, .ref (2000 + q), flr, flr]) rfl (Nat.le_of_ble_eq_true rfl) rfl (fun X => ?_)
  have h200 := h.2.1
  have hge := wE_ge (u := u) (N := N) (i := p)
  have hle := wE_le (u := u) h.2.2.2.2
  have h4 : ssl.getD q 0 ≤ 4 := (ssl_le ⟨q, hsq⟩).1
  have cE : CtI m_Text_endOfRow 0 [.ref 47, .int 97, .int 122] (pl μ (sb u N p)) (nI (wE u N p)) (pl μ (sb u N p)) := c_Text_endOfRow (h.to (sb_le h.2.2.2.2)) 97 122 (ltP u) (lt_ok h)
  refine r_aload_n 0 d_Text_isNextName_0 rfl rfl ?_
  refine r_callVv (c_Text_skipBlanks h) lk_Text_27 (by first | with_reducible assumption | rfl) d_Text_isNextName_1 rfl rfl (Nat.le_of_ble_eq_true rfl) (by decide) ?_
  refine r_aload_n 0 d_Text_isNextName_4 rfl rfl ?_
  refine r_bipush (97) d_Text_isNextName_5 (by decide) ?_
  refine r_bipush (122) d_Text_isNextName_7 (by decide) ?_
  refine r_callVi cE lk_Text_74 (by first | with_reducible assumption | rfl) d_Text_isNextName_9 rfl rfl (Nat.le_of_ble_eq_true rfl) (by decide) ?_
  refine r_istore_n 2 [_, _, _, _] d_Text_isNextName_12 rfl (by decide) rfl ?_
  refine r_iload_n 2 d_Text_isNextName_13 rfl rfl ?_
  refine r_aload_n 0 d_Text_isNextName_14 rfl rfl ?_
  refine r_getI fl_Text_19 (by first | with_reducible assumption | rfl) rfl d_Text_isNextName_15 ?_
  rw [pl_2]
  refine r_isub d_Text_isNextName_18 ?_
  rw [pk_sub hge, hk.1]
  refine r_aload_n 1 d_Text_isNextName_19 rfl rfl ?_
  refine r_callVSi (c_JString_length hsq _) lk_Text_78 hsq d_Text_isNextName_20 rfl rfl (Nat.le_of_ble_eq_true rfl) (by decide) ?_
  refine r_icmp_eq d_Text_isNextName_23 (fun h23 => ?_) (fun h23 => absurd rfl h23)
  refine r_iconst 0 d_Text_isNextName_28 rfl ?_
  refine r_istore_n 3 [_, _, _, _] d_Text_isNextName_29 rfl (by decide) rfl ?_
  refine lpN (ssl.getD q 0) (fun i (_ : Unit) => Wa X m_Text_isNextName 4 30 [.ref 47, .ref (2000 + q), .int (nI (wE u N p)), .int (nI i)] [] (pl μ (sb u N p)) _) (fun _ _ => True) ?_ 0 () (Nat.zero_le _) trivial
  intro i _ hi _ hkk
  refine r_iload_n 3 d_Text_isNextName_30 rfl rfl ?_
  refine r_aload_n 1 d_Text_isNextName_31 rfl rfl ?_
  refine r_callVSi (c_JString_length hsq _) lk_Text_78 hsq d_Text_isNextName_32 rfl rfl (Nat.le_of_ble_eq_true rfl) (by decide) ?_
  refine r_icmp_ge d_Text_isNextName_35 (fun h35 => ?_) (fun h35 => ?_)
  · refine r_aload_n 0 d_Text_isNextName_65 rfl rfl ?_
    refine r_iload_n 2 d_Text_isNextName_66 rfl rfl ?_
    refine r_putI fp_Text_19 (by first | with_reducible assumption | rfl) rfl d_Text_isNextName_67 ?_
    refine r_iconst 1 d_Text_isNextName_70 rfl ?_
    refine r_iret .boolean d_Text_isNextName_71 rfl (by first | decide | assumption) ?_
    exact ⟨rfl, pl_pl⟩
  · have hl : i < ssl.getD q 0 := n_lt h35 rfl rfl (by omega) (by omega)
    have h1 := hk.1
    have hin : sb u N p + i < N := by omega
    refine r_aload_n 0 d_Text_isNextName_38 rfl rfl ?_
    refine r_getR fl_Text_9 (by first | with_reducible assumption | rfl) rfl d_Text_isNextName_39 ?_
    refine r_aload_n 0 d_Text_isNextName_42 rfl rfl ?_
    refine r_getI fl_Text_19 (by first | with_reducible assumption | rfl) rfl d_Text_isNextName_43 ?_
    rw [pl_2]
    refine r_iload_n 3 d_Text_isNextName_46 rfl rfl ?_
    refine r_iadd d_Text_isNextName_47 ?_
    rw [nI_add]
    refine r_baldN (by first | with_reducible assumption | rfl) (show sb u N p + i < 200 by omega) d_Text_isNextName_48 ?_
    rw [h.b hin]
    refine r_aload_n 1 d_Text_isNextName_49 rfl rfl ?_
    refine r_iload_n 3 d_Text_isNextName_50 rfl rfl ?_
    refine r_callVSi (c_JString_charAt hsq hl _) lk_Text_82 hsq d_Text_isNextName_51 rfl rfl (Nat.le_of_ble_eq_true rfl) (by decide) ?_
    refine r_icmp_eq d_Text_isNextName_54 (fun h54 => ?_) (fun h54 => absurd ((sg_ch ⟨_, (h.2.2.1 _ hin).1⟩ ⟨chN q i, ch_128 ⟨q, hsq⟩ ⟨i, by omega⟩⟩).mpr (hk.2 i hl)) h54)
    first | refine r_iincN 3 [_, _, _, _] d_Text_isNextName_59 (by decide) rfl rfl ?_ | refine r_iinc 3 [_, _, _, _] (1) d_Text_isNextName_59 (by decide) (by decide) rfl rfl ?_
    refine r_goto d_Text_isNextName_62 ?_
    exact hkk () hl trivial
set_option maxHeartbeats 400000 in
theorem c_Text_nm_n {μ : Me} {u : Nat → Nat} {N p q : Nat} (hsq : q < 4) (h : TpC μ u N p) (hk : ¬ nmOk u N q p) : CtI m_Text_isNextName 4 [.ref 47, .ref (2000 + q)] μ 0 (pl μ (sb u N p)) := by
  refine Ct.of (ls := [.ref 47, .ref (2000 + q), flr, flr]) rfl (Nat.le_of_ble_eq_true rfl) rfl (fun X => ?_)
  have h200 := h.2.1
  have hge := wE_ge (u := u) (N := N) (i := p)
  have hle := wE_le (u := u) h.2.2.2.2
  have h4 : ssl.getD q 0 ≤ 4 := (ssl_le ⟨q, hsq⟩).1
  have cE : CtI m_Text_endOfRow 0 [.ref 47, .int 97, .int 122] (pl μ (sb u N p)) (nI (wE u N p)) (pl μ (sb u N p)) := c_Text_endOfRow (h.to (sb_le h.2.2.2.2)) 97 122 (ltP u) (lt_ok h)
  refine r_aload_n 0 d_Text_isNextName_0 rfl rfl ?_
  refine r_callVv (c_Text_skipBlanks h) lk_Text_27 (by first | with_reducible assumption | rfl) d_Text_isNextName_1 rfl rfl (Nat.le_of_ble_eq_true rfl) (by decide) ?_
  refine r_aload_n 0 d_Text_isNextName_4 rfl rfl ?_
  refine r_bipush (97) d_Text_isNextName_5 (by decide) ?_
  refine r_bipush (122) d_Text_isNextName_7 (by decide) ?_
  refine r_callVi cE lk_Text_74 (by first | with_reducible assumption | rfl) d_Text_isNextName_9 rfl rfl (Nat.le_of_ble_eq_true rfl) (by decide) ?_
  refine r_istore_n 2 [_, _, _, _] d_Text_isNextName_12 rfl (by decide) rfl ?_
  refine r_iload_n 2 d_Text_isNextName_13 rfl rfl ?_
  refine r_aload_n 0 d_Text_isNextName_14 rfl rfl ?_
  refine r_getI fl_Text_19 (by first | with_reducible assumption | rfl) rfl d_Text_isNextName_15 ?_
  rw [pl_2]
  refine r_isub d_Text_isNextName_18 ?_
  rw [pk_sub hge]
  refine r_aload_n 1 d_Text_isNextName_19 rfl rfl ?_
  refine r_callVSi (c_JString_length hsq _) lk_Text_78 hsq d_Text_isNextName_20 rfl rfl (Nat.le_of_ble_eq_true rfl) (by decide) ?_
  refine r_icmp_eq d_Text_isNextName_23 (fun h23 => ?_) (fun h23 => ?_)
  · refine r_iconst 0 d_Text_isNextName_28 rfl ?_
    refine r_istore_n 3 [_, _, _, _] d_Text_isNextName_29 rfl (by decide) rfl ?_
    have h1 : wE u N p - sb u N p = ssl.getD q 0 := (nI_eq (by omega) (by omega)).mp h23
    refine lpN (ssl.getD q 0) (fun i (_ : Unit) => Wa X m_Text_isNextName 4 30 [.ref 47, .ref (2000 + q), .int (nI (wE u N p)), .int (nI i)] [] (pl μ (sb u N p)) _) (fun i _ => ∀ j, j < i → u (sb u N p + j) = chN q j) ?_ 0 () (Nat.zero_le _) (fun j hj => absurd hj (Nat.not_lt_zero j))
    intro i _ hi hI hkk
    refine r_iload_n 3 d_Text_isNextName_30 rfl rfl ?_
    refine r_aload_n 1 d_Text_isNextName_31 rfl rfl ?_
    refine r_callVSi (c_JString_length hsq _) lk_Text_78 hsq d_Text_isNextName_32 rfl rfl (Nat.le_of_ble_eq_true rfl) (by decide) ?_
    refine r_icmp_ge d_Text_isNextName_35 (fun h35 => ?_) (fun h35 => ?_)
    · have hge' := n_le h35 rfl rfl (by omega) (by omega)
      obtain rfl : i = ssl.getD q 0 := by omega
      exact absurd ⟨h1, hI⟩ hk
    · have hl : i < ssl.getD q 0 := n_lt h35 rfl rfl (by omega) (by omega)
      have hin : sb u N p + i < N := by omega
      refine r_aload_n 0 d_Text_isNextName_38 rfl rfl ?_
      refine r_getR fl_Text_9 (by first | with_reducible assumption | rfl) rfl d_Text_isNextName_39 ?_
      refine r_aload_n 0 d_Text_isNextName_42 rfl rfl ?_
      refine r_getI fl_Text_19 (by first | with_reducible assumption | rfl) rfl d_Text_isNextName_43 ?_
      rw [pl_2]
      refine r_iload_n 3 d_Text_isNextName_46 rfl rfl ?_
      refine r_iadd d_Text_isNextName_47 ?_
      rw [nI_add]
      refine r_baldN (by first | with_reducible assumption | rfl) (show sb u N p + i < 200 by omega) d_Text_isNextName_48 ?_
      rw [h.b hin]
      refine r_aload_n 1 d_Text_isNextName_49 rfl rfl ?_
      refine r_iload_n 3 d_Text_isNextName_50 rfl rfl ?_
      refine r_callVSi (c_JString_charAt hsq hl _) lk_Text_82 hsq d_Text_isNextName_51 rfl rfl (Nat.le_of_ble_eq_true rfl) (by decide) ?_
      refine r_icmp_eq d_Text_isNextName_54 (fun h54 => ?_) (fun h54 => ?_)
      · first | refine r_iincN 3 [_, _, _, _] d_Text_isNextName_59 (by decide) rfl rfl ?_ | refine r_iinc 3 [_, _, _, _] (1) d_Text_isNextName_59 (by decide) (by decide) rfl rfl ?_
        refine r_goto d_Text_isNextName_62 ?_
        refine hkk () hl (fun j hj => ?_)
        rcases Nat.lt_or_ge j i with z | z
        · exact hI j z
        · obtain rfl : j = i := by omega
          exact (sg_ch ⟨_, (h.2.2.1 _ hin).1⟩ ⟨chN q j, ch_128 ⟨q, hsq⟩ ⟨j, by omega⟩⟩).mp h54
      · refine r_iconst 0 d_Text_isNextName_57 rfl ?_
        refine r_iret .boolean d_Text_isNextName_58 rfl (by first | decide | assumption) ?_
        exact ⟨rfl, rfl⟩
  · refine r_iconst 0 d_Text_isNextName_26 rfl ?_
    refine r_iret .boolean d_Text_isNextName_27 rfl (by first | decide | assumption) ?_
    exact ⟨rfl, rfl⟩
set_option maxHeartbeats 400000 in
theorem c_Text_sm_y {μ : Me} {u : Nat → Nat} {N p : Nat} (h : TpC μ u N p) (hk : smOk u N p) : CtI m_Text_isNextSemicolon 1 [.ref 47] μ 1 (pl μ (sb u N p + 1)) := by
  have := c_Text_isNextSemicolon h
  rw [if_pos hk, ← bz_t hk] at this
  exact this
set_option maxHeartbeats 400000 in
theorem c_Text_sm_n {μ : Me} {u : Nat → Nat} {N p : Nat} (h : TpC μ u N p) (hk : ¬ smOk u N p) : CtI m_Text_isNextSemicolon 1 [.ref 47] μ 0 (pl μ (sb u N p)) := by
  have := c_Text_isNextSemicolon h
  rw [if_neg hk, ← bz_f hk] at this
  exact this
