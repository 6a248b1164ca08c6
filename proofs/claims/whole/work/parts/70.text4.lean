/-! THE TAPE becomes THE LESSON, by the class -/
theorem it_sb {u : Nat → Nat} {N p : Nat} : (itK u N (sb u N p) ↔ itK u N p) ∧ itE u N (sb u N p) = itE u N p ∧ itV u N (sb u N p) = itV u N p ∧ itF u N (sb u N p) = itF u N p := by
  refine ⟨?_, ?_, ?_, ?_⟩
  · unfold itK; simp only [nm_sb, wE_sb]
  · unfold itE; simp only [nm_sb, wE_sb]
  · unfold itV; simp only [nm_sb, wE_sb]
  · unfold itF; simp only [nm_sb, wE_sb, sb_sb]
theorem itE_le {u : Nat → Nat} {N p : Nat} (hk : itK u N p) : itE u N p ≤ N := by
  unfold itK at hk
  unfold itE
  by_cases k0 : nmOk u N 0 p
  · rw [if_pos k0] at hk ⊢
    exact hk.2.2.1
  · rw [if_neg k0] at hk ⊢
    by_cases k2 : nmOk u N 2 p
    · rw [if_pos k2] at hk ⊢
      exact hk.2.1
    · rw [if_neg k2] at hk ⊢
      by_cases k3 : nmOk u N 3 p
      · rw [if_pos k3] at hk
        exact hk.2.1
      · rw [if_neg k3] at hk
        exact hk.elim
def ps (u : Nat → Nat) (N : Nat) : Nat → Nat
  | 0 => 0
  | i + 1 => itE u N (ps u N i)
abbrev gdI (u : Nat → Nat) (N i : Nat) : Prop := sb u N (ps u N i) < N ∧ itK u N (ps u N i)
theorem ps_le {u : Nat → Nat} {N : Nat} : ∀ {i : Nat}, (∀ j, j < i → gdI u N j) → ps u N i ≤ N
  | 0, _ => Nat.zero_le _
  | i + 1, h => itE_le (h i (Nat.lt_succ_self i)).2
def liM (μ : Me) (u : Nat → Nat) (N : Nat) : Nat → Me
  | 0 => uI μ 49 3 0
  | i + 1 => apM (liM μ u N i) i (itV u N (ps u N i)).1 (itV u N (ps u N i)).2.1 (itV u N (ps u N i)).2.2
theorem ap_ne {μ : Me} {m c : Nat} {a b e : Int32} (h : c < 49 ∨ 52 < c) : (apM μ m a b e).1 c = μ.1 c := by rw [apM, uI_ne (by omega), uI_ne (by omega), uI_ne (by omega), uI_ne (by omega)]
theorem li_ne {μ : Me} {u : Nat → Nat} {N c : Nat} (h : c < 49 ∨ 52 < c) : ∀ i, (liM μ u N i).1 c = μ.1 c
  | 0 => uI_ne (by omega)
  | i + 1 => by rw [liM, ap_ne h, li_ne h i]
theorem li_2 {μ : Me} {u : Nat → Nat} {N : Nat} : ∀ i, (liM μ u N i).2 = μ.2
  | 0 => rfl
  | i + 1 => li_2 i
theorem li_3 {μ : Me} {u : Nat → Nat} {N : Nat} : ∀ i, (liM μ u N i).1 49 3 = nI i
  | 0 => uI_at
  | i + 1 => by rw [liM, apM, uI_at]
theorem ap_50 {μ : Me} {m : Nat} {a b e : Int32} : (apM μ m a b e).1 50 = upd (μ.1 50) m a ∧ (apM μ m a b e).1 51 = upd (μ.1 51) m b ∧ (apM μ m a b e).1 52 = upd (μ.1 52) m e := by
  refine ⟨?_, ?_, ?_⟩
  · rw [apM, uI_ne (by decide), uI_ne (by decide), uI_ne (by decide), uI_eq]
  · rw [apM, uI_ne (by decide), uI_ne (by decide), uI_eq, uI_ne (by decide)]
  · rw [apM, uI_ne (by decide), uI_eq, uI_ne (by decide), uI_ne (by decide)]
theorem li_at {μ : Me} {u : Nat → Nat} {N : Nat} : ∀ n i, i < n → (liM μ u N n).1 50 i = (itV u N (ps u N i)).1 ∧ (liM μ u N n).1 51 i = (itV u N (ps u N i)).2.1 ∧ (liM μ u N n).1 52 i = (itV u N (ps u N i)).2.2
  | 0, i, h => absurd h (Nat.not_lt_zero i)
  | n + 1, i, h => by
    obtain ⟨e1, e2, e3⟩ := ap_50 (μ := liM μ u N n) (m := n) (a := (itV u N (ps u N n)).1) (b := (itV u N (ps u N n)).2.1) (e := (itV u N (ps u N n)).2.2)
    rw [liM, e1, e2, e3]
    by_cases hi : i = n
    · subst hi
      exact ⟨pk_us, pk_us, pk_us⟩
    · rw [pk_un hi, pk_un hi, pk_un hi]
      exact li_at n i (by omega)
theorem pl_ap {μ : Me} {a m : Nat} {x y z : Int32} : apM (pl μ a) m x y z = pl (apM μ m x y z) a := by
  unfold apM pl
  rw [uI_comm (c := 47) (c' := 50) (by decide), uI_comm (c := 47) (c' := 51) (by decide), uI_comm (c := 47) (c' := 52) (by decide), uI_comm (c := 47) (c' := 49) (by decide)]
def TpB (μ : Me) (u : Nat → Nat) (N : Nat) : Prop := μ.1 47 1 = nI N ∧ N ≤ 200 ∧ ∀ i, i < N → u i < 256 ∧ μ.1 48 i = sg (u i)
theorem TpB.at_ {μ : Me} {u : Nat → Nat} {N p : Nat} (h : TpB μ u N) (hp : p ≤ N) (i : Nat) : TpC (pl (liM μ u N i) p) u N p := ⟨by rw [pl_1, li_ne (by decide)]; exact h.1, h.2.1, fun j hj => by rw [pl_ne (by decide), li_ne (by decide)]; exact h.2.2 j hj, pl_2, hp⟩
set_option maxHeartbeats 400000 in
theorem c_ri_step (X : Nat × (Nat → Int32)) {μ : Me} {u : Nat → Nat} {N n : Nat} (h : TpB μ u N) (hn : n ≤ 12) (hg : ∀ j, j < n → gdI u N j) (post : Option Value → Me → Prop) (hend : Wa X m_Text_readInto 7 12 [.ref 47, .ref 49, .int (nI n)] [] (pl (liM μ u N n) (ps u N n)) post) : ∀ r i, i + r = n → Wa X m_Text_readInto 7 12 [.ref 47, .ref 49, .int (nI i)] [] (pl (liM μ u N i) (ps u N i)) post := by
  have h200 := h.2.1
  intro r
  induction r with
  | zero =>
    intro i hi
    obtain rfl : i = n := by omega
    exact hend
  | succ r ih =>
    intro i hi
    have ih1 := ih (i + 1) (by omega)
    obtain ⟨g1, g2⟩ := hg i (by omega)
    have hp := ps_le (u := u) (N := N) (i := i) (fun j hj => hg j (by omega))
    have hT := h.at_ hp i
    have hT2 := h.at_ (sb_le (u := u) hp) i
    have cI := c_Text_it_y hT2 (m := i) (by omega) (by rw [pl_ne (by decide), li_3]) (it_sb.1.mpr g2)
    rw [it_sb.2.1, it_sb.2.2.1, pl_pl, pl_ap] at cI
    have cS := c_Text_skipBlanks hT
    rw [pl_pl] at cS
    refine r_iload_n 2 d_Text_readInto_12 rfl rfl ?_
    refine r_bipush (12) d_Text_readInto_13 (by decide) ?_
    refine r_icmp_ge d_Text_readInto_15 (fun h15 => absurd h15 (nI_ge (a := i) (b := 12) (by omega) (by decide))) (fun h15 => ?_)
    refine r_aload_n 0 d_Text_readInto_18 rfl rfl ?_
    refine r_callVv cS lk_Text_27 (by first | with_reducible assumption | rfl) d_Text_readInto_19 rfl rfl (Nat.le_of_ble_eq_true rfl) (by decide) ?_
    refine r_aload_n 0 d_Text_readInto_22 rfl rfl ?_
    refine r_getI fl_Text_19 (by first | with_reducible assumption | rfl) rfl d_Text_readInto_23 ?_
    rw [pl_2]
    refine r_aload_n 0 d_Text_readInto_26 rfl rfl ?_
    refine r_getI fl_Text_15 (by first | with_reducible assumption | rfl) rfl d_Text_readInto_27 ?_
    rw [pl_1, li_ne (by decide), h.1]
    refine r_icmp_lt d_Text_readInto_30 (fun h30 => ?_) (fun h30 => absurd (nI_lt g1 (by omega)) h30)
    refine r_aload_n 0 d_Text_readInto_35 rfl rfl ?_
    refine r_aload_n 1 d_Text_readInto_36 rfl rfl ?_
    refine r_callVi cI lk_Text_30 (by first | with_reducible assumption | rfl) d_Text_readInto_37 rfl rfl (Nat.le_of_ble_eq_true rfl) (by decide) ?_
    refine r_if_ne d_Text_readInto_40 (fun h40 => ?_) (fun h40 => absurd h40 (by decide))
    first | refine r_iincN 2 [_, _, _] d_Text_readInto_45 (by decide) rfl rfl ?_ | refine r_iinc 2 [_, _, _] (1) d_Text_readInto_45 (by decide) (by decide) rfl rfl ?_
    refine r_goto d_Text_readInto_48 ?_
    exact ih1
set_option maxHeartbeats 400000 in
theorem c_Text_readInto_ok {μ : Me} {u : Nat → Nat} {N n : Nat} (h : TpB μ u N) (hn : n ≤ 12) (hg : ∀ j, j < n → gdI u N j) (he : N ≤ sb u N (ps u N n)) : CtI m_Text_readInto 7 [.ref 47, .ref 49] μ 1 (pl (liM μ u N n) (sb u N (ps u N n))) := by
  refine Ct.of (ls := [.ref 47, .ref 49, flr]) rfl (Nat.le_of_ble_eq_true rfl) rfl (fun X => ?_)
  have h200 := h.2.1
  have hp := ps_le hg
  have hs := sb_le (u := u) hp
  have hT := h.at_ hp n
  have cS := c_Text_skipBlanks hT
  rw [pl_pl] at cS
  refine r_aload_n 1 d_Text_readInto_0 rfl rfl ?_
  refine r_iconst 0 d_Text_readInto_1 rfl ?_
  refine r_putI fp_Text_22 (by first | with_reducible assumption | rfl) rfl d_Text_readInto_2 ?_
  refine r_aload_n 0 d_Text_readInto_5 rfl rfl ?_
  refine r_iconst 0 d_Text_readInto_6 rfl ?_
  refine r_putI fp_Text_19 (by first | with_reducible assumption | rfl) rfl d_Text_readInto_7 ?_
  refine r_iconst 0 d_Text_readInto_10 rfl ?_
  refine r_istore_n 2 [_, _, _] d_Text_readInto_11 rfl (by decide) rfl ?_
  refine Wa.eqM (μ' := pl (liM μ u N 0) (ps u N 0)) rfl ?_
  refine c_ri_step X h hn hg _ ?_ n 0 (by omega)
  by_cases h12 : n = 12
  · subst h12
    refine r_iload_n 2 d_Text_readInto_12 rfl rfl ?_
    refine r_bipush (12) d_Text_readInto_13 (by decide) ?_
    refine r_icmp_ge d_Text_readInto_15 (fun h15 => ?_) (fun h15 => absurd (by decide) h15)
    refine r_aload_n 0 d_Text_readInto_51 rfl rfl ?_
    refine r_callVv cS lk_Text_27 (by first | with_reducible assumption | rfl) d_Text_readInto_52 rfl rfl (Nat.le_of_ble_eq_true rfl) (by decide) ?_
    refine r_aload_n 0 d_Text_readInto_55 rfl rfl ?_
    refine r_getI fl_Text_19 (by first | with_reducible assumption | rfl) rfl d_Text_readInto_56 ?_
    rw [pl_2]
    refine r_aload_n 0 d_Text_readInto_59 rfl rfl ?_
    refine r_getI fl_Text_15 (by first | with_reducible assumption | rfl) rfl d_Text_readInto_60 ?_
    rw [pl_1, li_ne (by decide), h.1]
    refine r_icmp_lt d_Text_readInto_63 (fun h63 => absurd h63 (nI_nlt he (by omega))) (fun h63 => ?_)
    refine r_iconst 1 d_Text_readInto_66 rfl ?_
    refine r_goto d_Text_readInto_67 ?_
    refine r_iret .boolean d_Text_readInto_71 rfl (by first | decide | assumption) ?_
    exact ⟨rfl, rfl⟩
  · skip
    refine r_iload_n 2 d_Text_readInto_12 rfl rfl ?_
    refine r_bipush (12) d_Text_readInto_13 (by decide) ?_
    refine r_icmp_ge d_Text_readInto_15 (fun h15 => absurd h15 (nI_ge (a := n) (b := 12) (by omega) (by decide))) (fun h15 => ?_)
    refine r_aload_n 0 d_Text_readInto_18 rfl rfl ?_
    refine r_callVv cS lk_Text_27 (by first | with_reducible assumption | rfl) d_Text_readInto_19 rfl rfl (Nat.le_of_ble_eq_true rfl) (by decide) ?_
    refine r_aload_n 0 d_Text_readInto_22 rfl rfl ?_
    refine r_getI fl_Text_19 (by first | with_reducible assumption | rfl) rfl d_Text_readInto_23 ?_
    rw [pl_2]
    refine r_aload_n 0 d_Text_readInto_26 rfl rfl ?_
    refine r_getI fl_Text_15 (by first | with_reducible assumption | rfl) rfl d_Text_readInto_27 ?_
    rw [pl_1, li_ne (by decide), h.1]
    refine r_icmp_lt d_Text_readInto_30 (fun h30 => absurd h30 (nI_nlt he (by omega))) (fun h30 => ?_)
    refine r_iconst 1 d_Text_readInto_33 rfl ?_
    refine r_iret .boolean d_Text_readInto_34 rfl (by first | decide | assumption) ?_
    exact ⟨rfl, rfl⟩
def flt (u : Nat → Nat) (N n : Nat) : Nat := if n < 12 then itF u N (ps u N n) else sb u N (ps u N n)
set_option maxHeartbeats 400000 in
theorem c_Text_readInto_bad {μ : Me} {u : Nat → Nat} {N n : Nat} (h : TpB μ u N) (hn : n ≤ 12) (hg : ∀ j, j < n → gdI u N j) (he : sb u N (ps u N n) < N) (hk : n < 12 → ¬ itK u N (ps u N n)) : CtI m_Text_readInto 7 [.ref 47, .ref 49] μ 0 (pl (liM μ u N n) (flt u N n)) := by
  refine Ct.of (ls := [.ref 47, .ref 49, flr]) rfl (Nat.le_of_ble_eq_true rfl) rfl (fun X => ?_)
  have h200 := h.2.1
  have hp := ps_le hg
  have hT := h.at_ hp n
  have cS := c_Text_skipBlanks hT
  rw [pl_pl] at cS
  have hT2 := h.at_ (sb_le (u := u) hp) n
  refine r_aload_n 1 d_Text_readInto_0 rfl rfl ?_
  refine r_iconst 0 d_Text_readInto_1 rfl ?_
  refine r_putI fp_Text_22 (by first | with_reducible assumption | rfl) rfl d_Text_readInto_2 ?_
  refine r_aload_n 0 d_Text_readInto_5 rfl rfl ?_
  refine r_iconst 0 d_Text_readInto_6 rfl ?_
  refine r_putI fp_Text_19 (by first | with_reducible assumption | rfl) rfl d_Text_readInto_7 ?_
  refine r_iconst 0 d_Text_readInto_10 rfl ?_
  refine r_istore_n 2 [_, _, _] d_Text_readInto_11 rfl (by decide) rfl ?_
  refine Wa.eqM (μ' := pl (liM μ u N 0) (ps u N 0)) rfl ?_
  refine c_ri_step X h hn hg _ ?_ n 0 (by omega)
  by_cases h12 : n = 12
  · subst h12
    rw [flt, if_neg (by omega)]
    refine r_iload_n 2 d_Text_readInto_12 rfl rfl ?_
    refine r_bipush (12) d_Text_readInto_13 (by decide) ?_
    refine r_icmp_ge d_Text_readInto_15 (fun h15 => ?_) (fun h15 => absurd (by decide) h15)
    refine r_aload_n 0 d_Text_readInto_51 rfl rfl ?_
    refine r_callVv cS lk_Text_27 (by first | with_reducible assumption | rfl) d_Text_readInto_52 rfl rfl (Nat.le_of_ble_eq_true rfl) (by decide) ?_
    refine r_aload_n 0 d_Text_readInto_55 rfl rfl ?_
    refine r_getI fl_Text_19 (by first | with_reducible assumption | rfl) rfl d_Text_readInto_56 ?_
    rw [pl_2]
    refine r_aload_n 0 d_Text_readInto_59 rfl rfl ?_
    refine r_getI fl_Text_15 (by first | with_reducible assumption | rfl) rfl d_Text_readInto_60 ?_
    rw [pl_1, li_ne (by decide), h.1]
    refine r_icmp_lt d_Text_readInto_63 (fun h63 => ?_) (fun h63 => absurd (nI_lt he (by omega)) h63)
    refine r_iconst 0 d_Text_readInto_70 rfl ?_
    refine r_iret .boolean d_Text_readInto_71 rfl (by first | decide | assumption) ?_
    exact ⟨rfl, rfl⟩
  · have hlt : n < 12 := by omega
    have cI := c_Text_it_n hT2 (fun z => hk hlt (it_sb.1.mp z))
    rw [it_sb.2.2.2, pl_pl] at cI
    rw [flt, if_pos hlt]
    refine r_iload_n 2 d_Text_readInto_12 rfl rfl ?_
    refine r_bipush (12) d_Text_readInto_13 (by decide) ?_
    refine r_icmp_ge d_Text_readInto_15 (fun h15 => absurd h15 (nI_ge (a := n) (b := 12) (by omega) (by decide))) (fun h15 => ?_)
    refine r_aload_n 0 d_Text_readInto_18 rfl rfl ?_
    refine r_callVv cS lk_Text_27 (by first | with_reducible assumption | rfl) d_Text_readInto_19 rfl rfl (Nat.le_of_ble_eq_true rfl) (by decide) ?_
    refine r_aload_n 0 d_Text_readInto_22 rfl rfl ?_
    refine r_getI fl_Text_19 (by first | with_reducible assumption | rfl) rfl d_Text_readInto_23 ?_
    rw [pl_2]
    refine r_aload_n 0 d_Text_readInto_26 rfl rfl ?_
    refine r_getI fl_Text_15 (by first | with_reducible assumption | rfl) rfl d_Text_readInto_27 ?_
    rw [pl_1, li_ne (by decide), h.1]
    refine r_icmp_lt d_Text_readInto_30 (fun h30 => ?_) (fun h30 => absurd (nI_lt he (by omega)) h30)
    refine r_aload_n 0 d_Text_readInto_35 rfl rfl ?_
    refine r_aload_n 1 d_Text_readInto_36 rfl rfl ?_
    refine r_callVi cI lk_Text_30 (by first | with_reducible assumption | rfl) d_Text_readInto_37 rfl rfl (Nat.le_of_ble_eq_true rfl) (by decide) ?_
    refine r_if_ne d_Text_readInto_40 (fun h40 => absurd rfl h40) (fun h40 => ?_)
    refine r_iconst 0 d_Text_readInto_43 rfl ?_
    refine r_iret .boolean d_Text_readInto_44 rfl (by first | decide | assumption) ?_
    exact ⟨rfl, rfl⟩
/-- cells that lesson() may change -/
def lcs (c : Nat) : Prop := c = 4 ∨ c = 5 ∨ c = 6 ∨ c = 7 ∨ c = 47 ∨ c = 49 ∨ c = 50 ∨ c = 51 ∨ c = 52
set_option maxHeartbeats 400000 in
theorem c_S_lesson_ok {μ : Me} {u : Nat → Nat} {N n : Nat} (h : TpB μ u N) (hn : n ≤ 12) (hg : ∀ j, j < n → gdI u N j) (he : N ≤ sb u N (ps u N n)) : Ct m_S_lesson 8 [.ref 0] μ (fun r μ' => r = some (.int (nI n)) ∧ μ'.1 4 3 = nI n ∧ (∀ i, i < n → μ'.1 5 i = (itV u N (ps u N i)).1 ∧ μ'.1 6 i = (itV u N (ps u N i)).2.1 ∧ μ'.1 7 i = (itV u N (ps u N i)).2.2) ∧ μ'.1 47 1 = 0 ∧ (∀ c, ¬ lcs c → μ'.1 c = μ.1 c) ∧ μ'.2 = μ.2) := by
  refine Ct.of (ls := [.ref 0, flr, flr]) rfl (Nat.le_of_ble_eq_true rfl) rfl (fun X => ?_)
  refine r_aload_n 0 d_S_lesson_0 rfl rfl ?_
  refine r_getR fl_S_26 (by first | with_reducible assumption | rfl) rfl d_S_lesson_1 ?_
  refine r_aload_n 0 d_S_lesson_4 rfl rfl ?_
  refine r_getR fl_S_33 (by first | with_reducible assumption | rfl) rfl d_S_lesson_5 ?_
  refine r_callVi (c_Text_readInto_ok h hn hg he) lk_S_101 (by first | with_reducible assumption | rfl) d_S_lesson_8 rfl rfl (Nat.le_of_ble_eq_true rfl) (by decide) ?_
  refine r_istore_n 1 [_, _, _] d_S_lesson_11 rfl (by decide) rfl ?_
  refine r_aload_n 0 d_S_lesson_12 rfl rfl ?_
  refine r_getR fl_S_26 (by first | with_reducible assumption | rfl) rfl d_S_lesson_13 ?_
  refine r_getI fl_S_105 (by first | with_reducible assumption | rfl) rfl d_S_lesson_16 ?_
  refine r_istore_n 2 [_, _, _] d_S_lesson_19 rfl (by decide) rfl ?_
  refine r_aload_n 0 d_S_lesson_20 rfl rfl ?_
  refine r_getR fl_S_26 (by first | with_reducible assumption | rfl) rfl d_S_lesson_21 ?_
  refine r_iconst 0 d_S_lesson_24 rfl ?_
  refine r_putI fp_S_93 (by first | with_reducible assumption | rfl) rfl d_S_lesson_25 ?_
  refine r_iload_n 1 d_S_lesson_28 rfl rfl ?_
  refine r_if_ne d_S_lesson_29 (fun h29 => ?_) (fun h29 => absurd h29 (by decide))
  refine r_aload_n 0 d_S_lesson_37 rfl rfl ?_
  refine r_getR fl_S_12 (by first | with_reducible assumption | rfl) rfl d_S_lesson_38 ?_
  refine r_getR fl_S_108 (by first | with_reducible assumption | rfl) rfl d_S_lesson_41 ?_
  refine r_aload_n 0 d_S_lesson_44 rfl rfl ?_
  refine r_getR fl_S_33 (by first | with_reducible assumption | rfl) rfl d_S_lesson_45 ?_
  refine r_callVv (c_Lesson_copyFrom isLs_4 isLs_49 (Or.inl (by decide)) _) lk_S_111 (by first | with_reducible assumption | rfl) d_S_lesson_48 rfl rfl (Nat.le_of_ble_eq_true rfl) (by decide) ?_
  refine r_aload_n 0 d_S_lesson_51 rfl rfl ?_
  refine r_getR fl_S_12 (by first | with_reducible assumption | rfl) rfl d_S_lesson_52 ?_
  refine r_getR fl_S_108 (by first | with_reducible assumption | rfl) rfl d_S_lesson_55 ?_
  refine r_getI fl_S_115 (by first | with_reducible assumption | rfl) rfl d_S_lesson_58 ?_
  refine r_iret .int d_S_lesson_61 rfl rfl ?_
  have e49 : (uI (pl (liM μ u N n) (sb u N (ps u N n))) 47 1 0).1 49 3 = nI n := by rw [uI_ne (by decide), pl_ne (by decide), li_3]
  refine ⟨?_, ?_, ?_, ?_, ?_, ?_⟩
  · rw [uI_at, e49]
  · rw [uI_at, e49]
  · intro i hi
    obtain ⟨a1, a2, a3⟩ := li_at (μ := μ) (u := u) (N := N) n i hi
    refine ⟨?_, ?_, ?_⟩
    · rw [uI_ne (by decide), show (5 : Nat) = 4 + 1 from rfl, r3_1, cut_in (by omega), uI_ne (by decide), pl_ne (by decide)]; exact a1
    · rw [uI_ne (by decide), show (6 : Nat) = 4 + 2 from rfl, r3_2, cut_in (by omega), uI_ne (by decide), pl_ne (by decide)]; exact a2
    · rw [uI_ne (by decide), show (7 : Nat) = 4 + 3 from rfl, r3_3, cut_in (by omega), uI_ne (by decide), pl_ne (by decide)]; exact a3
  · rw [uI_ne (by decide), r3_ne (by decide) (by decide) (by decide), uI_at]
  · intro c' hc
    unfold lcs at hc
    rw [uI_ne (by omega), r3_ne (by omega) (by omega) (by omega), uI_ne (by omega), pl_ne (by omega), li_ne (by omega)]
  · exact li_2 n
set_option maxHeartbeats 400000 in
theorem c_S_lesson_bad {μ : Me} {u : Nat → Nat} {N n : Nat} (h : TpB μ u N) (hn : n ≤ 12) (hg : ∀ j, j < n → gdI u N j) (he : sb u N (ps u N n) < N) (hk : n < 12 → ¬ itK u N (ps u N n)) : Ct m_S_lesson 8 [.ref 0] μ (fun r μ' => r = some (.int (-100 - nI (flt u N n))) ∧ μ'.1 47 1 = 0 ∧ (∀ c, c ≠ 47 → c < 49 ∨ 52 < c → μ'.1 c = μ.1 c) ∧ μ'.2 = μ.2) := by
  refine Ct.of (ls := [.ref 0, flr, flr]) rfl (Nat.le_of_ble_eq_true rfl) rfl (fun X => ?_)
  refine r_aload_n 0 d_S_lesson_0 rfl rfl ?_
  refine r_getR fl_S_26 (by first | with_reducible assumption | rfl) rfl d_S_lesson_1 ?_
  refine r_aload_n 0 d_S_lesson_4 rfl rfl ?_
  refine r_getR fl_S_33 (by first | with_reducible assumption | rfl) rfl d_S_lesson_5 ?_
  refine r_callVi (c_Text_readInto_bad h hn hg he hk) lk_S_101 (by first | with_reducible assumption | rfl) d_S_lesson_8 rfl rfl (Nat.le_of_ble_eq_true rfl) (by decide) ?_
  refine r_istore_n 1 [_, _, _] d_S_lesson_11 rfl (by decide) rfl ?_
  refine r_aload_n 0 d_S_lesson_12 rfl rfl ?_
  refine r_getR fl_S_26 (by first | with_reducible assumption | rfl) rfl d_S_lesson_13 ?_
  refine r_getI fl_S_105 (by first | with_reducible assumption | rfl) rfl d_S_lesson_16 ?_
  rw [pl_2]
  refine r_istore_n 2 [_, _, _] d_S_lesson_19 rfl (by decide) rfl ?_
  refine r_aload_n 0 d_S_lesson_20 rfl rfl ?_
  refine r_getR fl_S_26 (by first | with_reducible assumption | rfl) rfl d_S_lesson_21 ?_
  refine r_iconst 0 d_S_lesson_24 rfl ?_
  refine r_putI fp_S_93 (by first | with_reducible assumption | rfl) rfl d_S_lesson_25 ?_
  refine r_iload_n 1 d_S_lesson_28 rfl rfl ?_
  refine r_if_ne d_S_lesson_29 (fun h29 => absurd rfl h29) (fun h29 => ?_)
  refine r_bipush (-100) d_S_lesson_32 (by decide) ?_
  refine r_iload_n 2 d_S_lesson_34 rfl rfl ?_
  refine r_isub d_S_lesson_35 ?_
  refine r_iret .int d_S_lesson_36 rfl rfl ?_
  refine ⟨rfl, uI_at, fun c' h1 h2 => ?_, li_2 n⟩
  rw [uI_ne h1, pl_ne h1, li_ne h2]
