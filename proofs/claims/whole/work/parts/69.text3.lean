/-! items of a TEXT, THE LESSON, by the class -/
abbrev prOk (u : Nat → Nat) (N p : Nat) : Prop := nuOk u N 2 9 p ∧ nuOk u N 2 9 (nE u N p)
def prV (u : Nat → Nat) (N p : Nat) : Int32 := pairAtS (nI (nV u N p)) (nI (nV u N (nE u N p)))
def prF (u : Nat → Nat) (N p : Nat) : Nat := if nuOk u N 2 9 p then sb u N (nE u N p) else sb u N p
def prE (u : Nat → Nat) (N p : Nat) : Nat := nE u N (nE u N p)
theorem prE_le {u : Nat → Nat} {N p : Nat} (h : p ≤ N) : prE u N p ≤ N := nE_le (nE_le h)
theorem pa_ok : ∀ i : Fin 8, ∀ j : Fin 8, ∃ q : Fin 36, pairAtS (nI (i.val + 2)) (nI (j.val + 2)) = nI q.val := by decide +kernel
theorem pa_n {a b : Nat} (ha : 2 ≤ a ∧ a ≤ 9) (hb : 2 ≤ b ∧ b ≤ 9) : ∃ q, q < 36 ∧ pairAtS (nI a) (nI b) = nI q := by
  obtain ⟨q, hq⟩ := pa_ok ⟨a - 2, by omega⟩ ⟨b - 2, by omega⟩
  simp only [show a - 2 + 2 = a by omega, show b - 2 + 2 = b by omega] at hq
  exact ⟨q.val, q.isLt, hq⟩
theorem prV_n {u : Nat → Nat} {N p : Nat} (h : prOk u N p) : ∃ q, q < 36 ∧ prV u N p = nI q := pa_n h.1.2 h.2.2
set_option maxHeartbeats 400000 in
theorem c_Text_pr_y {μ : Me} {u : Nat → Nat} {N p : Nat} (h : TpC μ u N p) (hk : prOk u N p) : CtI m_Text_readPair 2 [.ref 47] μ (prV u N p) (pl μ (prE u N p)) := by
  refine Ct.of (ls := [.ref 47, flr, flr]) rfl (Nat.le_of_ble_eq_true rfl) rfl (fun X => ?_)
  have v1 := nV_le hk.1.1.2
  have v2 := nV_le hk.2.1.2
  refine r_aload_n 0 d_Text_readPair_0 rfl rfl ?_
  refine r_iconst 2 d_Text_readPair_1 rfl ?_
  refine r_bipush (9) d_Text_readPair_2 (by decide) ?_
  refine r_callVi (c_Text_rn_y (lo := 2) (hi := 9) h (by decide) hk.1) lk_Text_59 (by first | with_reducible assumption | rfl) d_Text_readPair_4 rfl rfl (Nat.le_of_ble_eq_true rfl) (by decide) ?_
  refine r_istore_n 1 [_, _, _] d_Text_readPair_7 rfl (by decide) rfl ?_
  refine r_iload_n 1 d_Text_readPair_8 rfl rfl ?_
  refine r_if_ge d_Text_readPair_9 (fun h9 => ?_) (fun h9 => absurd (nI_pos' (by omega)) h9)
  refine r_aload_n 0 d_Text_readPair_14 rfl rfl ?_
  refine r_iconst 2 d_Text_readPair_15 rfl ?_
  refine r_bipush (9) d_Text_readPair_16 (by decide) ?_
  refine r_callVi (c_Text_rn_y (lo := 2) (hi := 9) (h.to (nE_le h.2.2.2.2)) (by decide) hk.2) lk_Text_59 (by first | with_reducible assumption | rfl) d_Text_readPair_18 rfl rfl (Nat.le_of_ble_eq_true rfl) (by decide) ?_
  refine r_istore_n 2 [_, _, _] d_Text_readPair_21 rfl (by decide) rfl ?_
  refine r_iload_n 2 d_Text_readPair_22 rfl rfl ?_
  refine r_if_ge d_Text_readPair_23 (fun h23 => ?_) (fun h23 => absurd (nI_pos' (by omega)) h23)
  refine r_iload_n 1 d_Text_readPair_28 rfl rfl ?_
  refine r_iload_n 2 d_Text_readPair_29 rfl rfl ?_
  refine r_callSNi (c_S_pairAt _ _ _) lk_Text_71 d_Text_readPair_30 rfl rfl (Nat.le_of_ble_eq_true rfl) (by decide) ?_
  refine r_iret .int d_Text_readPair_33 rfl rfl ?_
  exact ⟨rfl, pl_pl⟩
set_option maxHeartbeats 400000 in
theorem c_Text_pr_n {μ : Me} {u : Nat → Nat} {N p : Nat} (h : TpC μ u N p) (hk : ¬ prOk u N p) : CtI m_Text_readPair 2 [.ref 47] μ (-1) (pl μ (prF u N p)) := by
  refine Ct.of (ls := [.ref 47, flr, flr]) rfl (Nat.le_of_ble_eq_true rfl) rfl (fun X => ?_)
  by_cases h1 : nuOk u N 2 9 p
  · have v1 := nV_le h1.1.2
    rw [prF, if_pos h1]
    refine r_aload_n 0 d_Text_readPair_0 rfl rfl ?_
    refine r_iconst 2 d_Text_readPair_1 rfl ?_
    refine r_bipush (9) d_Text_readPair_2 (by decide) ?_
    refine r_callVi (c_Text_rn_y (lo := 2) (hi := 9) h (by decide) h1) lk_Text_59 (by first | with_reducible assumption | rfl) d_Text_readPair_4 rfl rfl (Nat.le_of_ble_eq_true rfl) (by decide) ?_
    refine r_istore_n 1 [_, _, _] d_Text_readPair_7 rfl (by decide) rfl ?_
    refine r_iload_n 1 d_Text_readPair_8 rfl rfl ?_
    refine r_if_ge d_Text_readPair_9 (fun h9 => ?_) (fun h9 => absurd (nI_pos' (by omega)) h9)
    refine r_aload_n 0 d_Text_readPair_14 rfl rfl ?_
    refine r_iconst 2 d_Text_readPair_15 rfl ?_
    refine r_bipush (9) d_Text_readPair_16 (by decide) ?_
    refine r_callVi (c_Text_rn_n (lo := 2) (hi := 9) (h.to (nE_le h.2.2.2.2)) (by decide) (by decide) (fun z => hk ⟨h1, z⟩)) lk_Text_59 (by first | with_reducible assumption | rfl) d_Text_readPair_18 rfl rfl (Nat.le_of_ble_eq_true rfl) (by decide) ?_
    refine r_istore_n 2 [_, _, _] d_Text_readPair_21 rfl (by decide) rfl ?_
    refine r_iload_n 2 d_Text_readPair_22 rfl rfl ?_
    refine r_if_ge d_Text_readPair_23 (fun h23 => absurd h23 (by decide)) (fun h23 => ?_)
    refine r_iconst (-1) d_Text_readPair_26 rfl ?_
    refine r_iret .int d_Text_readPair_27 rfl rfl ?_
    exact ⟨rfl, pl_pl⟩
  · rw [prF, if_neg h1]
    refine r_aload_n 0 d_Text_readPair_0 rfl rfl ?_
    refine r_iconst 2 d_Text_readPair_1 rfl ?_
    refine r_bipush (9) d_Text_readPair_2 (by decide) ?_
    refine r_callVi (c_Text_rn_n (lo := 2) (hi := 9) h (by decide) (by decide) h1) lk_Text_59 (by first | with_reducible assumption | rfl) d_Text_readPair_4 rfl rfl (Nat.le_of_ble_eq_true rfl) (by decide) ?_
    refine r_istore_n 1 [_, _, _] d_Text_readPair_7 rfl (by decide) rfl ?_
    refine r_iload_n 1 d_Text_readPair_8 rfl rfl ?_
    refine r_if_ge d_Text_readPair_9 (fun h9 => absurd h9 (by decide)) (fun h9 => ?_)
    refine r_iconst (-1) d_Text_readPair_12 rfl ?_
    refine r_iret .int d_Text_readPair_13 rfl rfl ?_
    exact ⟨rfl, rfl⟩
/-- an item that was read, at the lesson's end -/
def apM (μ : Me) (m : Nat) (a b e : Int32) : Me := uI (uI (uI (uI μ 50 m a) 51 m b) 52 m e) 49 3 (nI (m + 1))
abbrev askK (u : Nat → Nat) (N p : Nat) : Prop := (prOk u N p ∧ nmOk u N 1 (prE u N p)) ∧ nuOk u N 1 9 (wE u N (prE u N p)) ∧ smOk u N (nE u N (wE u N (prE u N p)))
def askF (u : Nat → Nat) (N p : Nat) : Nat := if prOk u N p then (if nmOk u N 1 (prE u N p) then (if nuOk u N 1 9 (wE u N (prE u N p)) then sb u N (nE u N (wE u N (prE u N p))) else sb u N (wE u N (prE u N p))) else sb u N (prE u N p)) else prF u N p
theorem apM_of {ν : Me} {m : Nat} (hm : m < 12) {a b e : Int32} : (if m < 12 then uI (uI (uI (uI ν (49 + 1) m a) (49 + 2) m b) (49 + 3) m e) 49 3 (nI (m + 1)) else ν) = apM ν m a b e := by rw [if_pos hm]; rfl
set_option maxHeartbeats 400000 in
theorem c_ap {ν : Me} {m : Nat} (hm : m < 12) (a b e : Int32) (hc3 : ν.1 49 3 = nI m) : CtV m_Lesson_append 0 [.ref 49, .int a, .int b, .int e] ν (apM ν m a b e) := by
  have := c_Lesson_append isLs_49 (Nat.le_of_lt hm) a b e ν hc3
  rw [apM_of hm] at this
  exact this
set_option maxHeartbeats 400000 in
theorem c_Text_ask_y {μ : Me} {u : Nat → Nat} {N p m : Nat} (h : TpC μ u N p) (hm : m < 12) (hct : μ.1 49 3 = nI m) (hk : askK u N p) : CtI m_Text_readAsk 5 [.ref 47, .ref 49] μ 1 (apM (pl μ (sb u N (nE u N (wE u N (prE u N p))) + 1)) m 0 (prV u N p) (nI (nV u N (wE u N (prE u N p))))) := by
  refine Ct.of (ls := [.ref 47, .ref 49, flr, flr]) rfl (Nat.le_of_ble_eq_true rfl) rfl (fun X => ?_)
  obtain ⟨⟨k1, k2⟩, k3, k4⟩ := hk
  obtain ⟨q, hq, eq⟩ := prV_n k1
  have v3 := nV_le k3.1.2
  have g1 := h.to (prE_le (u := u) h.2.2.2.2)
  have g2 := g1.to (wE_le (u := u) g1.2.2.2.2)
  have g3 := g2.to (nE_le (u := u) g2.2.2.2.2)
  refine r_aload_n 0 d_Text_readAsk_0 rfl rfl ?_
  refine r_callVi (c_Text_pr_y h k1) lk_Text_53 (by first | with_reducible assumption | rfl) d_Text_readAsk_1 rfl rfl (Nat.le_of_ble_eq_true rfl) (by decide) ?_
  refine r_istore_n 2 [_, _, _, _] d_Text_readAsk_4 rfl (by decide) rfl ?_
  refine r_iload_n 2 d_Text_readAsk_5 rfl rfl ?_
  refine r_if_lt d_Text_readAsk_6 (fun h6 => absurd h6 (by rw [eq]; exact nI_pos (by omega))) (fun h6 => ?_)
  refine r_aload_n 0 d_Text_readAsk_9 rfl rfl ?_
  refine r_ldcS 1 (by decide) rfl rfl d_Text_readAsk_10 ?_
  refine r_callVi (c_Text_nm_y (q := 1) (by decide) g1 k2) lk_Text_36 (by first | with_reducible assumption | rfl) d_Text_readAsk_12 rfl rfl (Nat.le_of_ble_eq_true rfl) (by decide) ?_
  refine r_if_ne d_Text_readAsk_15 (fun h15 => ?_) (fun h15 => absurd h15 (by decide))
  refine r_aload_n 0 d_Text_readAsk_20 rfl rfl ?_
  refine r_iconst 1 d_Text_readAsk_21 rfl ?_
  refine r_bipush (9) d_Text_readAsk_22 (by decide) ?_
  refine r_callVi (c_Text_rn_y (lo := 1) (hi := 9) g2 (by decide) k3) lk_Text_59 (by first | with_reducible assumption | rfl) d_Text_readAsk_24 rfl rfl (Nat.le_of_ble_eq_true rfl) (by decide) ?_
  refine r_istore_n 3 [_, _, _, _] d_Text_readAsk_27 rfl (by decide) rfl ?_
  refine r_iload_n 3 d_Text_readAsk_28 rfl rfl ?_
  refine r_if_lt d_Text_readAsk_29 (fun h29 => absurd h29 (nI_pos (by omega))) (fun h29 => ?_)
  refine r_aload_n 0 d_Text_readAsk_32 rfl rfl ?_
  refine r_callVi (c_Text_sm_y g3 k4) lk_Text_63 (by first | with_reducible assumption | rfl) d_Text_readAsk_33 rfl rfl (Nat.le_of_ble_eq_true rfl) (by decide) ?_
  refine r_if_ne d_Text_readAsk_36 (fun h36 => ?_) (fun h36 => absurd h36 (by decide))
  refine r_aload_n 1 d_Text_readAsk_41 rfl rfl ?_
  refine r_iconst 0 d_Text_readAsk_42 rfl ?_
  refine r_iload_n 2 d_Text_readAsk_43 rfl rfl ?_
  refine r_iload_n 3 d_Text_readAsk_44 rfl rfl ?_
  refine r_callVv (c_ap hm _ _ _ (by rw [pl_ne (by decide), pl_ne (by decide), pl_ne (by decide), pl_ne (by decide)]; exact hct)) lk_Text_67 (by first | with_reducible assumption | rfl) d_Text_readAsk_45 rfl rfl (Nat.le_of_ble_eq_true rfl) (by decide) ?_
  refine r_iconst 1 d_Text_readAsk_48 rfl ?_
  refine r_iret .boolean d_Text_readAsk_49 rfl (by first | decide | assumption) ?_
  exact ⟨rfl, by rw [pl_pl, pl_pl, pl_pl]⟩
set_option maxHeartbeats 400000 in
theorem c_Text_ask_n {μ : Me} {u : Nat → Nat} {N p : Nat} (h : TpC μ u N p) (hk : ¬ askK u N p) : CtI m_Text_readAsk 5 [.ref 47, .ref 49] μ 0 (pl μ (askF u N p)) := by
  refine Ct.of (ls := [.ref 47, .ref 49, flr, flr]) rfl (Nat.le_of_ble_eq_true rfl) rfl (fun X => ?_)
  by_cases k1 : prOk u N p
  · obtain ⟨q, hq, eq⟩ := prV_n k1
    have g1 := h.to (prE_le (u := u) h.2.2.2.2)
    rw [askF, if_pos k1]
    by_cases k2 : nmOk u N 1 (prE u N p)
    · rw [if_pos k2]
      have g2 := g1.to (wE_le (u := u) g1.2.2.2.2)
      by_cases k3 : nuOk u N 1 9 (wE u N (prE u N p))
      · rw [if_pos k3]
        have v3 := nV_le k3.1.2
        have g3 := g2.to (nE_le (u := u) g2.2.2.2.2)
        refine r_aload_n 0 d_Text_readAsk_0 rfl rfl ?_
        refine r_callVi (c_Text_pr_y h k1) lk_Text_53 (by first | with_reducible assumption | rfl) d_Text_readAsk_1 rfl rfl (Nat.le_of_ble_eq_true rfl) (by decide) ?_
        refine r_istore_n 2 [_, _, _, _] d_Text_readAsk_4 rfl (by decide) rfl ?_
        refine r_iload_n 2 d_Text_readAsk_5 rfl rfl ?_
        refine r_if_lt d_Text_readAsk_6 (fun h6 => absurd h6 (by rw [eq]; exact nI_pos (by omega))) (fun h6 => ?_)
        refine r_aload_n 0 d_Text_readAsk_9 rfl rfl ?_
        refine r_ldcS 1 (by decide) rfl rfl d_Text_readAsk_10 ?_
        refine r_callVi (c_Text_nm_y (q := 1) (by decide) g1 k2) lk_Text_36 (by first | with_reducible assumption | rfl) d_Text_readAsk_12 rfl rfl (Nat.le_of_ble_eq_true rfl) (by decide) ?_
        refine r_if_ne d_Text_readAsk_15 (fun h15 => ?_) (fun h15 => absurd h15 (by decide))
        refine r_aload_n 0 d_Text_readAsk_20 rfl rfl ?_
        refine r_iconst 1 d_Text_readAsk_21 rfl ?_
        refine r_bipush (9) d_Text_readAsk_22 (by decide) ?_
        refine r_callVi (c_Text_rn_y (lo := 1) (hi := 9) g2 (by decide) k3) lk_Text_59 (by first | with_reducible assumption | rfl) d_Text_readAsk_24 rfl rfl (Nat.le_of_ble_eq_true rfl) (by decide) ?_
        refine r_istore_n 3 [_, _, _, _] d_Text_readAsk_27 rfl (by decide) rfl ?_
        refine r_iload_n 3 d_Text_readAsk_28 rfl rfl ?_
        refine r_if_lt d_Text_readAsk_29 (fun h29 => absurd h29 (nI_pos (by omega))) (fun h29 => ?_)
        refine r_aload_n 0 d_Text_readAsk_32 rfl rfl ?_
        refine r_callVi (c_Text_sm_n g3 (fun z => hk ⟨⟨k1, k2⟩, k3, z⟩)) lk_Text_63 (by first | with_reducible assumption | rfl) d_Text_readAsk_33 rfl rfl (Nat.le_of_ble_eq_true rfl) (by decide) ?_
        refine r_if_ne d_Text_readAsk_36 (fun h36 => absurd rfl h36) (fun h36 => ?_)
        refine r_iconst 0 d_Text_readAsk_39 rfl ?_
        refine r_iret .boolean d_Text_readAsk_40 rfl (by first | decide | assumption) ?_
        exact ⟨rfl, by rw [pl_pl, pl_pl, pl_pl]⟩
      · rw [if_neg k3]
        refine r_aload_n 0 d_Text_readAsk_0 rfl rfl ?_
        refine r_callVi (c_Text_pr_y h k1) lk_Text_53 (by first | with_reducible assumption | rfl) d_Text_readAsk_1 rfl rfl (Nat.le_of_ble_eq_true rfl) (by decide) ?_
        refine r_istore_n 2 [_, _, _, _] d_Text_readAsk_4 rfl (by decide) rfl ?_
        refine r_iload_n 2 d_Text_readAsk_5 rfl rfl ?_
        refine r_if_lt d_Text_readAsk_6 (fun h6 => absurd h6 (by rw [eq]; exact nI_pos (by omega))) (fun h6 => ?_)
        refine r_aload_n 0 d_Text_readAsk_9 rfl rfl ?_
        refine r_ldcS 1 (by decide) rfl rfl d_Text_readAsk_10 ?_
        refine r_callVi (c_Text_nm_y (q := 1) (by decide) g1 k2) lk_Text_36 (by first | with_reducible assumption | rfl) d_Text_readAsk_12 rfl rfl (Nat.le_of_ble_eq_true rfl) (by decide) ?_
        refine r_if_ne d_Text_readAsk_15 (fun h15 => ?_) (fun h15 => absurd h15 (by decide))
        refine r_aload_n 0 d_Text_readAsk_20 rfl rfl ?_
        refine r_iconst 1 d_Text_readAsk_21 rfl ?_
        refine r_bipush (9) d_Text_readAsk_22 (by decide) ?_
        refine r_callVi (c_Text_rn_n (lo := 1) (hi := 9) g2 (by decide) (by decide) k3) lk_Text_59 (by first | with_reducible assumption | rfl) d_Text_readAsk_24 rfl rfl (Nat.le_of_ble_eq_true rfl) (by decide) ?_
        refine r_istore_n 3 [_, _, _, _] d_Text_readAsk_27 rfl (by decide) rfl ?_
        refine r_iload_n 3 d_Text_readAsk_28 rfl rfl ?_
        refine r_if_lt d_Text_readAsk_29 (fun h29 => ?_) (fun h29 => absurd (by decide) h29)
        refine r_iconst 0 d_Text_readAsk_39 rfl ?_
        refine r_iret .boolean d_Text_readAsk_40 rfl (by first | decide | assumption) ?_
        exact ⟨rfl, by rw [pl_pl, pl_pl]⟩
    · rw [if_neg k2]
      refine r_aload_n 0 d_Text_readAsk_0 rfl rfl ?_
      refine r_callVi (c_Text_pr_y h k1) lk_Text_53 (by first | with_reducible assumption | rfl) d_Text_readAsk_1 rfl rfl (Nat.le_of_ble_eq_true rfl) (by decide) ?_
      refine r_istore_n 2 [_, _, _, _] d_Text_readAsk_4 rfl (by decide) rfl ?_
      refine r_iload_n 2 d_Text_readAsk_5 rfl rfl ?_
      refine r_if_lt d_Text_readAsk_6 (fun h6 => absurd h6 (by rw [eq]; exact nI_pos (by omega))) (fun h6 => ?_)
      refine r_aload_n 0 d_Text_readAsk_9 rfl rfl ?_
      refine r_ldcS 1 (by decide) rfl rfl d_Text_readAsk_10 ?_
      refine r_callVi (c_Text_nm_n (q := 1) (by decide) g1 k2) lk_Text_36 (by first | with_reducible assumption | rfl) d_Text_readAsk_12 rfl rfl (Nat.le_of_ble_eq_true rfl) (by decide) ?_
      refine r_if_ne d_Text_readAsk_15 (fun h15 => absurd rfl h15) (fun h15 => ?_)
      refine r_iconst 0 d_Text_readAsk_18 rfl ?_
      refine r_iret .boolean d_Text_readAsk_19 rfl (by first | decide | assumption) ?_
      exact ⟨rfl, by rw [pl_pl]⟩
  · rw [askF, if_neg k1]
    refine r_aload_n 0 d_Text_readAsk_0 rfl rfl ?_
    refine r_callVi (c_Text_pr_n h k1) lk_Text_53 (by first | with_reducible assumption | rfl) d_Text_readAsk_1 rfl rfl (Nat.le_of_ble_eq_true rfl) (by decide) ?_
    refine r_istore_n 2 [_, _, _, _] d_Text_readAsk_4 rfl (by decide) rfl ?_
    refine r_iload_n 2 d_Text_readAsk_5 rfl rfl ?_
    refine r_if_lt d_Text_readAsk_6 (fun h6 => ?_) (fun h6 => absurd (by decide) h6)
    refine r_iconst 0 d_Text_readAsk_18 rfl ?_
    refine r_iret .boolean d_Text_readAsk_19 rfl (by first | decide | assumption) ?_
    exact ⟨rfl, rfl⟩
abbrev telK (u : Nat → Nat) (N p : Nat) : Prop := prOk u N p ∧ smOk u N (prE u N p)
def telF (u : Nat → Nat) (N p : Nat) : Nat := if prOk u N p then sb u N (prE u N p) else prF u N p
set_option maxHeartbeats 400000 in
theorem c_Text_tel_y {μ : Me} {u : Nat → Nat} {N p m : Nat} (h : TpC μ u N p) (hm : m < 12) (hct : μ.1 49 3 = nI m) (hk : telK u N p) : CtI m_Text_readTell 5 [.ref 47, .ref 49] μ 1 (apM (pl μ (sb u N (prE u N p) + 1)) m 1 (prV u N p) 0) := by
  refine Ct.of (ls := [.ref 47, .ref 49, flr]) rfl (Nat.le_of_ble_eq_true rfl) rfl (fun X => ?_)
  obtain ⟨k1, k4⟩ := hk
  obtain ⟨q, hq, eq⟩ := prV_n k1
  have g1 := h.to (prE_le (u := u) h.2.2.2.2)
  refine r_aload_n 0 d_Text_readTell_0 rfl rfl ?_
  refine r_callVi (c_Text_pr_y h k1) lk_Text_53 (by first | with_reducible assumption | rfl) d_Text_readTell_1 rfl rfl (Nat.le_of_ble_eq_true rfl) (by decide) ?_
  refine r_istore_n 2 [_, _, _] d_Text_readTell_4 rfl (by decide) rfl ?_
  refine r_iload_n 2 d_Text_readTell_5 rfl rfl ?_
  refine r_if_lt d_Text_readTell_6 (fun h6 => absurd h6 (by rw [eq]; exact nI_pos (by omega))) (fun h6 => ?_)
  refine r_aload_n 0 d_Text_readTell_9 rfl rfl ?_
  refine r_callVi (c_Text_sm_y g1 k4) lk_Text_63 (by first | with_reducible assumption | rfl) d_Text_readTell_10 rfl rfl (Nat.le_of_ble_eq_true rfl) (by decide) ?_
  refine r_if_ne d_Text_readTell_13 (fun h13 => ?_) (fun h13 => absurd h13 (by decide))
  refine r_aload_n 1 d_Text_readTell_18 rfl rfl ?_
  refine r_iconst 1 d_Text_readTell_19 rfl ?_
  refine r_iload_n 2 d_Text_readTell_20 rfl rfl ?_
  refine r_iconst 0 d_Text_readTell_21 rfl ?_
  refine r_callVv (c_ap hm _ _ _ (by rw [pl_ne (by decide), pl_ne (by decide)]; exact hct)) lk_Text_67 (by first | with_reducible assumption | rfl) d_Text_readTell_22 rfl rfl (Nat.le_of_ble_eq_true rfl) (by decide) ?_
  refine r_iconst 1 d_Text_readTell_25 rfl ?_
  refine r_iret .boolean d_Text_readTell_26 rfl (by first | decide | assumption) ?_
  exact ⟨rfl, by rw [pl_pl]⟩
set_option maxHeartbeats 400000 in
theorem c_Text_tel_n {μ : Me} {u : Nat → Nat} {N p : Nat} (h : TpC μ u N p) (hk : ¬ telK u N p) : CtI m_Text_readTell 5 [.ref 47, .ref 49] μ 0 (pl μ (telF u N p)) := by
  refine Ct.of (ls := [.ref 47, .ref 49, flr]) rfl (Nat.le_of_ble_eq_true rfl) rfl (fun X => ?_)
  by_cases k1 : prOk u N p
  · obtain ⟨q, hq, eq⟩ := prV_n k1
    have g1 := h.to (prE_le (u := u) h.2.2.2.2)
    rw [telF, if_pos k1]
    refine r_aload_n 0 d_Text_readTell_0 rfl rfl ?_
    refine r_callVi (c_Text_pr_y h k1) lk_Text_53 (by first | with_reducible assumption | rfl) d_Text_readTell_1 rfl rfl (Nat.le_of_ble_eq_true rfl) (by decide) ?_
    refine r_istore_n 2 [_, _, _] d_Text_readTell_4 rfl (by decide) rfl ?_
    refine r_iload_n 2 d_Text_readTell_5 rfl rfl ?_
    refine r_if_lt d_Text_readTell_6 (fun h6 => absurd h6 (by rw [eq]; exact nI_pos (by omega))) (fun h6 => ?_)
    refine r_aload_n 0 d_Text_readTell_9 rfl rfl ?_
    refine r_callVi (c_Text_sm_n g1 (fun z => hk ⟨k1, z⟩)) lk_Text_63 (by first | with_reducible assumption | rfl) d_Text_readTell_10 rfl rfl (Nat.le_of_ble_eq_true rfl) (by decide) ?_
    refine r_if_ne d_Text_readTell_13 (fun h13 => absurd rfl h13) (fun h13 => ?_)
    refine r_iconst 0 d_Text_readTell_16 rfl ?_
    refine r_iret .boolean d_Text_readTell_17 rfl (by first | decide | assumption) ?_
    exact ⟨rfl, by rw [pl_pl]⟩
  · rw [telF, if_neg k1]
    refine r_aload_n 0 d_Text_readTell_0 rfl rfl ?_
    refine r_callVi (c_Text_pr_n h k1) lk_Text_53 (by first | with_reducible assumption | rfl) d_Text_readTell_1 rfl rfl (Nat.le_of_ble_eq_true rfl) (by decide) ?_
    refine r_istore_n 2 [_, _, _] d_Text_readTell_4 rfl (by decide) rfl ?_
    refine r_iload_n 2 d_Text_readTell_5 rfl rfl ?_
    refine r_if_lt d_Text_readTell_6 (fun h6 => ?_) (fun h6 => absurd (by decide) h6)
    refine r_iconst 0 d_Text_readTell_16 rfl ?_
    refine r_iret .boolean d_Text_readTell_17 rfl (by first | decide | assumption) ?_
    exact ⟨rfl, rfl⟩
abbrev rstK (u : Nat → Nat) (N p : Nat) : Prop := nuOk u N 1 9 p ∧ smOk u N (nE u N p)
def rstF (u : Nat → Nat) (N p : Nat) : Nat := if nuOk u N 1 9 p then sb u N (nE u N p) else sb u N p
set_option maxHeartbeats 400000 in
theorem c_Text_rst_y {μ : Me} {u : Nat → Nat} {N p m : Nat} (h : TpC μ u N p) (hm : m < 12) (hct : μ.1 49 3 = nI m) (hk : rstK u N p) : CtI m_Text_readRest 5 [.ref 47, .ref 49] μ 1 (apM (pl μ (sb u N (nE u N p) + 1)) m 2 (nI (nV u N p)) 0) := by
  refine Ct.of (ls := [.ref 47, .ref 49, flr]) rfl (Nat.le_of_ble_eq_true rfl) rfl (fun X => ?_)
  obtain ⟨k1, k4⟩ := hk
  have v1 := nV_le k1.1.2
  have g1 := h.to (nE_le (u := u) h.2.2.2.2)
  refine r_aload_n 0 d_Text_readRest_0 rfl rfl ?_
  refine r_iconst 1 d_Text_readRest_1 rfl ?_
  refine r_bipush (9) d_Text_readRest_2 (by decide) ?_
  refine r_callVi (c_Text_rn_y (lo := 1) (hi := 9) h (by decide) k1) lk_Text_59 (by first | with_reducible assumption | rfl) d_Text_readRest_4 rfl rfl (Nat.le_of_ble_eq_true rfl) (by decide) ?_
  refine r_istore_n 2 [_, _, _] d_Text_readRest_7 rfl (by decide) rfl ?_
  refine r_iload_n 2 d_Text_readRest_8 rfl rfl ?_
  refine r_if_lt d_Text_readRest_9 (fun h9 => absurd h9 (nI_pos (by omega))) (fun h9 => ?_)
  refine r_aload_n 0 d_Text_readRest_12 rfl rfl ?_
  refine r_callVi (c_Text_sm_y g1 k4) lk_Text_63 (by first | with_reducible assumption | rfl) d_Text_readRest_13 rfl rfl (Nat.le_of_ble_eq_true rfl) (by decide) ?_
  refine r_if_ne d_Text_readRest_16 (fun h16 => ?_) (fun h16 => absurd h16 (by decide))
  refine r_aload_n 1 d_Text_readRest_21 rfl rfl ?_
  refine r_iconst 2 d_Text_readRest_22 rfl ?_
  refine r_iload_n 2 d_Text_readRest_23 rfl rfl ?_
  refine r_iconst 0 d_Text_readRest_24 rfl ?_
  refine r_callVv (c_ap hm _ _ _ (by rw [pl_ne (by decide), pl_ne (by decide)]; exact hct)) lk_Text_67 (by first | with_reducible assumption | rfl) d_Text_readRest_25 rfl rfl (Nat.le_of_ble_eq_true rfl) (by decide) ?_
  refine r_iconst 1 d_Text_readRest_28 rfl ?_
  refine r_iret .boolean d_Text_readRest_29 rfl (by first | decide | assumption) ?_
  exact ⟨rfl, by rw [pl_pl]⟩
set_option maxHeartbeats 400000 in
theorem c_Text_rst_n {μ : Me} {u : Nat → Nat} {N p : Nat} (h : TpC μ u N p) (hk : ¬ rstK u N p) : CtI m_Text_readRest 5 [.ref 47, .ref 49] μ 0 (pl μ (rstF u N p)) := by
  refine Ct.of (ls := [.ref 47, .ref 49, flr]) rfl (Nat.le_of_ble_eq_true rfl) rfl (fun X => ?_)
  by_cases k1 : nuOk u N 1 9 p
  · have v1 := nV_le k1.1.2
    have g1 := h.to (nE_le (u := u) h.2.2.2.2)
    rw [rstF, if_pos k1]
    refine r_aload_n 0 d_Text_readRest_0 rfl rfl ?_
    refine r_iconst 1 d_Text_readRest_1 rfl ?_
    refine r_bipush (9) d_Text_readRest_2 (by decide) ?_
    refine r_callVi (c_Text_rn_y (lo := 1) (hi := 9) h (by decide) k1) lk_Text_59 (by first | with_reducible assumption | rfl) d_Text_readRest_4 rfl rfl (Nat.le_of_ble_eq_true rfl) (by decide) ?_
    refine r_istore_n 2 [_, _, _] d_Text_readRest_7 rfl (by decide) rfl ?_
    refine r_iload_n 2 d_Text_readRest_8 rfl rfl ?_
    refine r_if_lt d_Text_readRest_9 (fun h9 => absurd h9 (nI_pos (by omega))) (fun h9 => ?_)
    refine r_aload_n 0 d_Text_readRest_12 rfl rfl ?_
    refine r_callVi (c_Text_sm_n g1 (fun z => hk ⟨k1, z⟩)) lk_Text_63 (by first | with_reducible assumption | rfl) d_Text_readRest_13 rfl rfl (Nat.le_of_ble_eq_true rfl) (by decide) ?_
    refine r_if_ne d_Text_readRest_16 (fun h16 => absurd rfl h16) (fun h16 => ?_)
    refine r_iconst 0 d_Text_readRest_19 rfl ?_
    refine r_iret .boolean d_Text_readRest_20 rfl (by first | decide | assumption) ?_
    exact ⟨rfl, by rw [pl_pl]⟩
  · rw [rstF, if_neg k1]
    refine r_aload_n 0 d_Text_readRest_0 rfl rfl ?_
    refine r_iconst 1 d_Text_readRest_1 rfl ?_
    refine r_bipush (9) d_Text_readRest_2 (by decide) ?_
    refine r_callVi (c_Text_rn_n (lo := 1) (hi := 9) h (by decide) (by decide) k1) lk_Text_59 (by first | with_reducible assumption | rfl) d_Text_readRest_4 rfl rfl (Nat.le_of_ble_eq_true rfl) (by decide) ?_
    refine r_istore_n 2 [_, _, _] d_Text_readRest_7 rfl (by decide) rfl ?_
    refine r_iload_n 2 d_Text_readRest_8 rfl rfl ?_
    refine r_if_lt d_Text_readRest_9 (fun h9 => ?_) (fun h9 => absurd (by decide) h9)
    refine r_iconst 0 d_Text_readRest_19 rfl ?_
    refine r_iret .boolean d_Text_readRest_20 rfl (by first | decide | assumption) ?_
    exact ⟨rfl, rfl⟩
/-- an item: what it must be for one to stand at p; its numbers; where reading goes on; where the fault is -/
abbrev itK (u : Nat → Nat) (N p : Nat) : Prop := if nmOk u N 0 p then askK u N (wE u N p) else if nmOk u N 2 p then telK u N (wE u N p) else if nmOk u N 3 p then rstK u N (wE u N p) else False
def itV (u : Nat → Nat) (N p : Nat) : Int32 × Int32 × Int32 := if nmOk u N 0 p then (0, prV u N (wE u N p), nI (nV u N (wE u N (prE u N (wE u N p))))) else if nmOk u N 2 p then (1, prV u N (wE u N p), 0) else (2, nI (nV u N (wE u N p)), 0)
def itE (u : Nat → Nat) (N p : Nat) : Nat := if nmOk u N 0 p then sb u N (nE u N (wE u N (prE u N (wE u N p)))) + 1 else if nmOk u N 2 p then sb u N (prE u N (wE u N p)) + 1 else sb u N (nE u N (wE u N p)) + 1
def itF (u : Nat → Nat) (N p : Nat) : Nat := if nmOk u N 0 p then askF u N (wE u N p) else if nmOk u N 2 p then telF u N (wE u N p) else if nmOk u N 3 p then rstF u N (wE u N p) else sb u N p
theorem wE_sb {u : Nat → Nat} {N p : Nat} : wE u N (sb u N p) = wE u N p := by rw [wE, sb_sb]; rfl
theorem nm_sb {u : Nat → Nat} {N q p : Nat} : nmOk u N q (sb u N p) ↔ nmOk u N q p := by
  unfold nmOk
  rw [wE_sb, sb_sb]
set_option maxHeartbeats 400000 in
theorem c_nm_y' {μ : Me} {u : Nat → Nat} {N p q : Nat} (hsq : q < 4) (h : TpC μ u N p) (hk : nmOk u N q p) : CtI m_Text_isNextName 4 [.ref 47, .ref (2000 + q)] (pl μ (sb u N p)) 1 (pl μ (wE u N p)) := by
  have := c_Text_nm_y hsq (h.to (sb_le h.2.2.2.2)) (nm_sb.mpr hk)
  rw [wE_sb, pl_pl] at this
  exact this
set_option maxHeartbeats 400000 in
theorem c_nm_n' {μ : Me} {u : Nat → Nat} {N p q : Nat} (hsq : q < 4) (h : TpC μ u N p) (hk : ¬ nmOk u N q p) : CtI m_Text_isNextName 4 [.ref 47, .ref (2000 + q)] (pl μ (sb u N p)) 0 (pl μ (sb u N p)) := by
  have := c_Text_nm_n hsq (h.to (sb_le h.2.2.2.2)) (fun z => hk (nm_sb.mp z))
  rw [sb_sb, pl_pl] at this
  exact this
set_option maxHeartbeats 400000 in
theorem c_Text_it_y {μ : Me} {u : Nat → Nat} {N p m : Nat} (h : TpC μ u N p) (hm : m < 12) (hct : μ.1 49 3 = nI m) (hk : itK u N p) : CtI m_Text_readItem 6 [.ref 47, .ref 49] μ 1 (apM (pl μ (itE u N p)) m (itV u N p).1 (itV u N p).2.1 (itV u N p).2.2) := by
  refine Ct.of (ls := [.ref 47, .ref 49]) rfl (Nat.le_of_ble_eq_true rfl) rfl (fun X => ?_)
  have g := h.to (wE_le (u := u) h.2.2.2.2)
  have hc : (pl μ (wE u N p)).1 49 3 = nI m := by rw [pl_ne (by decide)]; exact hct
  unfold itK at hk
  by_cases k0 : nmOk u N 0 p
  · rw [if_pos k0] at hk
    rw [itE, itV, if_pos k0, if_pos k0]
    refine r_aload_n 0 d_Text_readItem_0 rfl rfl ?_
    refine r_ldcS 0 (by decide) rfl rfl d_Text_readItem_1 ?_
    refine r_callVi (c_Text_nm_y (q := 0) (by decide) h k0) lk_Text_36 (by first | with_reducible assumption | rfl) d_Text_readItem_3 rfl rfl (Nat.le_of_ble_eq_true rfl) (by decide) ?_
    refine r_if_eq d_Text_readItem_6 (fun h6 => absurd h6 (by decide)) (fun h6 => ?_)
    refine r_aload_n 0 d_Text_readItem_9 rfl rfl ?_
    refine r_aload_n 1 d_Text_readItem_10 rfl rfl ?_
    refine r_callVi (c_Text_ask_y g hm hc hk) lk_Text_40 (by first | with_reducible assumption | rfl) d_Text_readItem_11 rfl rfl (Nat.le_of_ble_eq_true rfl) (by decide) ?_
    refine r_iret .boolean d_Text_readItem_14 rfl (by first | decide | assumption) ?_
    exact ⟨rfl, by rw [pl_pl]⟩
  · rw [if_neg k0] at hk
    by_cases k2 : nmOk u N 2 p
    · rw [if_pos k2] at hk
      rw [itE, itV, if_neg k0, if_neg k0, if_pos k2, if_pos k2]
      refine r_aload_n 0 d_Text_readItem_0 rfl rfl ?_
      refine r_ldcS 0 (by decide) rfl rfl d_Text_readItem_1 ?_
      refine r_callVi (c_Text_nm_n (q := 0) (by decide) h k0) lk_Text_36 (by first | with_reducible assumption | rfl) d_Text_readItem_3 rfl rfl (Nat.le_of_ble_eq_true rfl) (by decide) ?_
      refine r_if_eq d_Text_readItem_6 (fun h6 => ?_) (fun h6 => absurd rfl h6)
      refine r_aload_n 0 d_Text_readItem_15 rfl rfl ?_
      refine r_ldcS 2 (by decide) rfl rfl d_Text_readItem_16 ?_
      refine r_callVi (c_nm_y' (q := 2) (by decide) h k2) lk_Text_36 (by first | with_reducible assumption | rfl) d_Text_readItem_18 rfl rfl (Nat.le_of_ble_eq_true rfl) (by decide) ?_
      refine r_if_eq d_Text_readItem_21 (fun h21 => absurd h21 (by decide)) (fun h21 => ?_)
      refine r_aload_n 0 d_Text_readItem_24 rfl rfl ?_
      refine r_aload_n 1 d_Text_readItem_25 rfl rfl ?_
      refine r_callVi (c_Text_tel_y g hm hc hk) lk_Text_45 (by first | with_reducible assumption | rfl) d_Text_readItem_26 rfl rfl (Nat.le_of_ble_eq_true rfl) (by decide) ?_
      refine r_iret .boolean d_Text_readItem_29 rfl (by first | decide | assumption) ?_
      exact ⟨rfl, by rw [pl_pl]⟩
    · rw [if_neg k2] at hk
      by_cases k3 : nmOk u N 3 p
      · rw [if_pos k3] at hk
        rw [itE, itV, if_neg k0, if_neg k0, if_neg k2, if_neg k2]
        refine r_aload_n 0 d_Text_readItem_0 rfl rfl ?_
        refine r_ldcS 0 (by decide) rfl rfl d_Text_readItem_1 ?_
        refine r_callVi (c_Text_nm_n (q := 0) (by decide) h k0) lk_Text_36 (by first | with_reducible assumption | rfl) d_Text_readItem_3 rfl rfl (Nat.le_of_ble_eq_true rfl) (by decide) ?_
        refine r_if_eq d_Text_readItem_6 (fun h6 => ?_) (fun h6 => absurd rfl h6)
        refine r_aload_n 0 d_Text_readItem_15 rfl rfl ?_
        refine r_ldcS 2 (by decide) rfl rfl d_Text_readItem_16 ?_
        refine r_callVi (c_nm_n' (q := 2) (by decide) h k2) lk_Text_36 (by first | with_reducible assumption | rfl) d_Text_readItem_18 rfl rfl (Nat.le_of_ble_eq_true rfl) (by decide) ?_
        refine r_if_eq d_Text_readItem_21 (fun h21 => ?_) (fun h21 => absurd rfl h21)
        refine r_aload_n 0 d_Text_readItem_30 rfl rfl ?_
        refine r_ldcS 3 (by decide) rfl rfl d_Text_readItem_31 ?_
        refine r_callVi (c_nm_y' (q := 3) (by decide) h k3) lk_Text_36 (by first | with_reducible assumption | rfl) d_Text_readItem_33 rfl rfl (Nat.le_of_ble_eq_true rfl) (by decide) ?_
        refine r_if_eq d_Text_readItem_36 (fun h36 => absurd h36 (by decide)) (fun h36 => ?_)
        refine r_aload_n 0 d_Text_readItem_39 rfl rfl ?_
        refine r_aload_n 1 d_Text_readItem_40 rfl rfl ?_
        refine r_callVi (c_Text_rst_y g hm hc hk) lk_Text_50 (by first | with_reducible assumption | rfl) d_Text_readItem_41 rfl rfl (Nat.le_of_ble_eq_true rfl) (by decide) ?_
        refine r_iret .boolean d_Text_readItem_44 rfl (by first | decide | assumption) ?_
        exact ⟨rfl, by rw [pl_pl]⟩
      · rw [if_neg k3] at hk
        exact hk.elim
set_option maxHeartbeats 400000 in
theorem c_Text_it_n {μ : Me} {u : Nat → Nat} {N p : Nat} (h : TpC μ u N p) (hk : ¬ itK u N p) : CtI m_Text_readItem 6 [.ref 47, .ref 49] μ 0 (pl μ (itF u N p)) := by
  refine Ct.of (ls := [.ref 47, .ref 49]) rfl (Nat.le_of_ble_eq_true rfl) rfl (fun X => ?_)
  have g := h.to (wE_le (u := u) h.2.2.2.2)
  unfold itK at hk
  by_cases k0 : nmOk u N 0 p
  · rw [if_pos k0] at hk
    rw [itF, if_pos k0]
    refine r_aload_n 0 d_Text_readItem_0 rfl rfl ?_
    refine r_ldcS 0 (by decide) rfl rfl d_Text_readItem_1 ?_
    refine r_callVi (c_Text_nm_y (q := 0) (by decide) h k0) lk_Text_36 (by first | with_reducible assumption | rfl) d_Text_readItem_3 rfl rfl (Nat.le_of_ble_eq_true rfl) (by decide) ?_
    refine r_if_eq d_Text_readItem_6 (fun h6 => absurd h6 (by decide)) (fun h6 => ?_)
    refine r_aload_n 0 d_Text_readItem_9 rfl rfl ?_
    refine r_aload_n 1 d_Text_readItem_10 rfl rfl ?_
    refine r_callVi (c_Text_ask_n g hk) lk_Text_40 (by first | with_reducible assumption | rfl) d_Text_readItem_11 rfl rfl (Nat.le_of_ble_eq_true rfl) (by decide) ?_
    refine r_iret .boolean d_Text_readItem_14 rfl (by first | decide | assumption) ?_
    exact ⟨rfl, by rw [pl_pl]⟩
  · rw [if_neg k0] at hk
    by_cases k2 : nmOk u N 2 p
    · rw [if_pos k2] at hk
      rw [itF, if_neg k0, if_pos k2]
      refine r_aload_n 0 d_Text_readItem_0 rfl rfl ?_
      refine r_ldcS 0 (by decide) rfl rfl d_Text_readItem_1 ?_
      refine r_callVi (c_Text_nm_n (q := 0) (by decide) h k0) lk_Text_36 (by first | with_reducible assumption | rfl) d_Text_readItem_3 rfl rfl (Nat.le_of_ble_eq_true rfl) (by decide) ?_
      refine r_if_eq d_Text_readItem_6 (fun h6 => ?_) (fun h6 => absurd rfl h6)
      refine r_aload_n 0 d_Text_readItem_15 rfl rfl ?_
      refine r_ldcS 2 (by decide) rfl rfl d_Text_readItem_16 ?_
      refine r_callVi (c_nm_y' (q := 2) (by decide) h k2) lk_Text_36 (by first | with_reducible assumption | rfl) d_Text_readItem_18 rfl rfl (Nat.le_of_ble_eq_true rfl) (by decide) ?_
      refine r_if_eq d_Text_readItem_21 (fun h21 => absurd h21 (by decide)) (fun h21 => ?_)
      refine r_aload_n 0 d_Text_readItem_24 rfl rfl ?_
      refine r_aload_n 1 d_Text_readItem_25 rfl rfl ?_
      refine r_callVi (c_Text_tel_n g hk) lk_Text_45 (by first | with_reducible assumption | rfl) d_Text_readItem_26 rfl rfl (Nat.le_of_ble_eq_true rfl) (by decide) ?_
      refine r_iret .boolean d_Text_readItem_29 rfl (by first | decide | assumption) ?_
      exact ⟨rfl, by rw [pl_pl]⟩
    · rw [if_neg k2] at hk
      by_cases k3 : nmOk u N 3 p
      · rw [if_pos k3] at hk
        rw [itF, if_neg k0, if_neg k2, if_pos k3]
        refine r_aload_n 0 d_Text_readItem_0 rfl rfl ?_
        refine r_ldcS 0 (by decide) rfl rfl d_Text_readItem_1 ?_
        refine r_callVi (c_Text_nm_n (q := 0) (by decide) h k0) lk_Text_36 (by first | with_reducible assumption | rfl) d_Text_readItem_3 rfl rfl (Nat.le_of_ble_eq_true rfl) (by decide) ?_
        refine r_if_eq d_Text_readItem_6 (fun h6 => ?_) (fun h6 => absurd rfl h6)
        refine r_aload_n 0 d_Text_readItem_15 rfl rfl ?_
        refine r_ldcS 2 (by decide) rfl rfl d_Text_readItem_16 ?_
        refine r_callVi (c_nm_n' (q := 2) (by decide) h k2) lk_Text_36 (by first | with_reducible assumption | rfl) d_Text_readItem_18 rfl rfl (Nat.le_of_ble_eq_true rfl) (by decide) ?_
        refine r_if_eq d_Text_readItem_21 (fun h21 => ?_) (fun h21 => absurd rfl h21)
        refine r_aload_n 0 d_Text_readItem_30 rfl rfl ?_
        refine r_ldcS 3 (by decide) rfl rfl d_Text_readItem_31 ?_
        refine r_callVi (c_nm_y' (q := 3) (by decide) h k3) lk_Text_36 (by first | with_reducible assumption | rfl) d_Text_readItem_33 rfl rfl (Nat.le_of_ble_eq_true rfl) (by decide) ?_
        refine r_if_eq d_Text_readItem_36 (fun h36 => absurd h36 (by decide)) (fun h36 => ?_)
        refine r_aload_n 0 d_Text_readItem_39 rfl rfl ?_
        refine r_aload_n 1 d_Text_readItem_40 rfl rfl ?_
        refine r_callVi (c_Text_rst_n g hk) lk_Text_50 (by first | with_reducible assumption | rfl) d_Text_readItem_41 rfl rfl (Nat.le_of_ble_eq_true rfl) (by decide) ?_
        refine r_iret .boolean d_Text_readItem_44 rfl (by first | decide | assumption) ?_
        exact ⟨rfl, by rw [pl_pl]⟩
      · rw [itF, if_neg k0, if_neg k2, if_neg k3]
        refine r_aload_n 0 d_Text_readItem_0 rfl rfl ?_
        refine r_ldcS 0 (by decide) rfl rfl d_Text_readItem_1 ?_
        refine r_callVi (c_Text_nm_n (q := 0) (by decide) h k0) lk_Text_36 (by first | with_reducible assumption | rfl) d_Text_readItem_3 rfl rfl (Nat.le_of_ble_eq_true rfl) (by decide) ?_
        refine r_if_eq d_Text_readItem_6 (fun h6 => ?_) (fun h6 => absurd rfl h6)
        refine r_aload_n 0 d_Text_readItem_15 rfl rfl ?_
        refine r_ldcS 2 (by decide) rfl rfl d_Text_readItem_16 ?_
        refine r_callVi (c_nm_n' (q := 2) (by decide) h k2) lk_Text_36 (by first | with_reducible assumption | rfl) d_Text_readItem_18 rfl rfl (Nat.le_of_ble_eq_true rfl) (by decide) ?_
        refine r_if_eq d_Text_readItem_21 (fun h21 => ?_) (fun h21 => absurd rfl h21)
        refine r_aload_n 0 d_Text_readItem_30 rfl rfl ?_
        refine r_ldcS 3 (by decide) rfl rfl d_Text_readItem_31 ?_
        refine r_callVi (c_nm_n' (q := 3) (by decide) h k3) lk_Text_36 (by first | with_reducible assumption | rfl) d_Text_readItem_33 rfl rfl (Nat.le_of_ble_eq_true rfl) (by decide) ?_
        refine r_if_eq d_Text_readItem_36 (fun h36 => ?_) (fun h36 => absurd rfl h36)
        refine r_iconst 0 d_Text_readItem_45 rfl ?_
        refine r_iret .boolean d_Text_readItem_46 rfl (by first | decide | assumption) ?_
        exact ⟨rfl, rfl⟩
