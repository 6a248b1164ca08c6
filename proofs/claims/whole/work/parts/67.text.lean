/-! reading a TEXT: the scanner, pure, and the class's Text over it -/
def sg (u : Nat) : Int32 := if u < 128 then nI u else nI u - 256
theorem sg_32 : ∀ u : Fin 256, sg u.val = 32 ↔ u.val = 32 := by decide +kernel
theorem sg_59 : ∀ u : Fin 256, sg u.val = 59 ↔ u.val = 59 := by decide +kernel
theorem sg_dg : ∀ u : Fin 256, (¬ sg u.val < 48 ∧ sg u.val ≤ 57) ↔ (48 ≤ u.val ∧ u.val ≤ 57) := by decide +kernel
theorem sg_lt : ∀ u : Fin 256, (¬ sg u.val < 97 ∧ sg u.val ≤ 122) ↔ (97 ≤ u.val ∧ u.val ≤ 122) := by decide +kernel
theorem sg_ch : ∀ u : Fin 256, ∀ k : Fin 128, sg u.val = nI k.val ↔ u.val = k.val := by decide +kernel
def scF (P : Nat → Bool) (N : Nat) : Nat → Nat → Nat
  | 0, i => i
  | k + 1, i => if i < N ∧ P i = true then scF P N k (i + 1) else i
def sc (P : Nat → Bool) (N i : Nat) : Nat := scF P N (N - i) i
theorem sc_stop {P : Nat → Bool} {N i : Nat} (h : ¬ (i < N ∧ P i = true)) : sc P N i = i := by
  unfold sc
  cases N - i with
  | zero => rfl
  | succ k => rw [scF, if_neg h]
theorem sc_go {P : Nat → Bool} {N i : Nat} (h : i < N ∧ P i = true) : sc P N i = sc P N (i + 1) := by
  unfold sc
  rw [show N - i = (N - (i + 1)) + 1 by omega, scF, if_pos h]
theorem sc_ind {P : Nat → Bool} {N : Nat} {C : Nat → Nat → Prop} (h0 : ∀ i, ¬ (i < N ∧ P i = true) → C i i) (h1 : ∀ i, i < N ∧ P i = true → C (i + 1) (sc P N (i + 1)) → C i (sc P N (i + 1))) : ∀ k i, N - i = k → C i (sc P N i) := by
  intro k
  induction k with
  | zero =>
    intro i hi
    have hn : ¬ (i < N ∧ P i = true) := fun z => by omega
    rw [sc_stop hn]
    exact h0 i hn
  | succ k ih =>
    intro i hi
    by_cases h : i < N ∧ P i = true
    · rw [sc_go h]
      exact h1 i h (ih (i + 1) (by omega))
    · rw [sc_stop h]
      exact h0 i h
theorem sc_ge {P : Nat → Bool} {N i : Nat} : i ≤ sc P N i := sc_ind (C := fun i e => i ≤ e) (fun i _ => Nat.le_refl i) (fun i _ h => by omega) _ i rfl
theorem sc_le {P : Nat → Bool} {N i : Nat} (hi : i ≤ N) : sc P N i ≤ N := sc_ind (C := fun i e => i ≤ N → e ≤ N) (fun i _ h => h) (fun i h ih _ => ih (by omega)) _ i rfl hi
theorem sc_end {P : Nat → Bool} {N i : Nat} : ¬ (sc P N i < N ∧ P (sc P N i) = true) := sc_ind (C := fun _ e => ¬ (e < N ∧ P e = true)) (fun i h => h) (fun i _ ih => ih) _ i rfl
theorem sc_all {P : Nat → Bool} {N i : Nat} : ∀ j, i ≤ j → j < sc P N i → j < N ∧ P j = true := sc_ind (C := fun i e => ∀ j, i ≤ j → j < e → j < N ∧ P j = true) (fun i _ j h1 h2 => by omega) (fun i h ih j h1 h2 => by
  by_cases hj : j = i
  · subst hj; exact h
  · exact ih j (by omega) h2) _ i rfl
theorem sc_idem {P : Nat → Bool} {N i : Nat} : sc P N (sc P N i) = sc P N i := sc_stop sc_end
def blP (u : Nat → Nat) (i : Nat) : Bool := decide (u i = 32)
def dgP (u : Nat → Nat) (i : Nat) : Bool := decide (48 ≤ u i ∧ u i ≤ 57)
def ltP (u : Nat → Nat) (i : Nat) : Bool := decide (97 ≤ u i ∧ u i ≤ 122)
def sb (u : Nat → Nat) (N i : Nat) : Nat := sc (blP u) N i
def nE (u : Nat → Nat) (N i : Nat) : Nat := sc (dgP u) N (sb u N i)
def wE (u : Nat → Nat) (N i : Nat) : Nat := sc (ltP u) N (sb u N i)
theorem sb_le {u : Nat → Nat} {N i : Nat} (h : i ≤ N) : sb u N i ≤ N := sc_le h
theorem nE_le {u : Nat → Nat} {N i : Nat} (h : i ≤ N) : nE u N i ≤ N := sc_le (sb_le h)
theorem wE_le {u : Nat → Nat} {N i : Nat} (h : i ≤ N) : wE u N i ≤ N := sc_le (sb_le h)
theorem nE_ge {u : Nat → Nat} {N i : Nat} : sb u N i ≤ nE u N i := sc_ge
theorem wE_ge {u : Nat → Nat} {N i : Nat} : sb u N i ≤ wE u N i := sc_ge
theorem sb_sb {u : Nat → Nat} {N i : Nat} : sb u N (sb u N i) = sb u N i := sc_idem
def nvF (u : Nat → Nat) (b : Nat) : Nat → Nat
  | 0 => 0
  | k + 1 => nvF u b k * 10 + (u (b + k) - 48)
def nV (u : Nat → Nat) (N p : Nat) : Nat := nvF u (sb u N p) (nE u N p - sb u N p)
abbrev nuOk (u : Nat → Nat) (N lo hi p : Nat) : Prop := (1 ≤ nE u N p - sb u N p ∧ nE u N p - sb u N p ≤ 2) ∧ lo ≤ nV u N p ∧ nV u N p ≤ hi
abbrev nmOk (u : Nat → Nat) (N q p : Nat) : Prop := wE u N p - sb u N p = ssl.getD q 0 ∧ ∀ j, j < ssl.getD q 0 → u (sb u N p + j) = chN q j
abbrev smOk (u : Nat → Nat) (N p : Nat) : Prop := sb u N p < N ∧ u (sb u N p) = 59
def TpC (μ : Me) (u : Nat → Nat) (N p : Nat) : Prop := μ.1 47 1 = nI N ∧ N ≤ 200 ∧ (∀ i, i < N → u i < 256 ∧ μ.1 48 i = sg (u i)) ∧ μ.1 47 2 = nI p ∧ p ≤ N
def pl (μ : Me) (p : Nat) : Me := uI μ 47 2 (nI p)
theorem pl_pl {μ : Me} {a b : Nat} : pl (pl μ a) b = pl μ b := uI_uI
theorem pl_2 {μ : Me} {a : Nat} : (pl μ a).1 47 2 = nI a := uI_at
theorem pl_1 {μ : Me} {a : Nat} : (pl μ a).1 47 1 = μ.1 47 1 := uI_off (by decide)
theorem pl_ne {μ : Me} {a c : Nat} (h : c ≠ 47) : (pl μ a).1 c = μ.1 c := uI_ne h
theorem TpC.to {μ : Me} {u : Nat → Nat} {N p p' : Nat} (h : TpC μ u N p) (hp : p' ≤ N) : TpC (pl μ p') u N p' := ⟨by rw [pl_1]; exact h.1, h.2.1, fun i hi => by rw [pl_ne (by decide)]; exact h.2.2.1 i hi, pl_2, hp⟩
theorem TpC.self {μ : Me} {u : Nat → Nat} {N p : Nat} (h : TpC μ u N p) : μ = pl μ p := (uI_self h.2.2.2.1).symm
theorem TpC.b {μ : Me} {u : Nat → Nat} {N p i : Nat} (h : TpC μ u N p) (hi : i < N) (a : Nat) : (pl μ a).1 48 i = sg (u i) := by rw [pl_ne (by decide)]; exact (h.2.2.1 i hi).2
set_option maxHeartbeats 400000 in
theorem c_Text_skipBlanks_l (X : Nat × (Nat → Int32)) {μ : Me} {u : Nat → Nat} {N p : Nat} (h : TpC μ u N p) : ∀ k i, N - i = k → i ≤ N → Wa X m_Text_skipBlanks 0 0 [.ref 47] [] (pl μ i) (fun r μ' => r = none ∧ μ' = pl μ (sb u N i)) := by
  intro k
  have h200 := h.2.1
  induction k with
  | zero =>
    intro i hk hi
    have hs : sb u N i = i := sc_stop (fun z => by omega)
    rw [hs]
    refine r_aload_n 0 d_Text_skipBlanks_0 rfl rfl ?_
    refine r_getI fl_Text_19 (by first | with_reducible assumption | rfl) rfl d_Text_skipBlanks_1 ?_
    rw [pl_2]
    refine r_aload_n 0 d_Text_skipBlanks_4 rfl rfl ?_
    refine r_getI fl_Text_15 (by first | with_reducible assumption | rfl) rfl d_Text_skipBlanks_5 ?_
    rw [pl_1, h.1]
    refine r_icmp_ge d_Text_skipBlanks_8 (fun h8 => ?_) (fun h8 => absurd (nI_le (by omega) (by omega)) h8)
    refine r_ret d_Text_skipBlanks_38 rfl ?_
    exact ⟨rfl, rfl⟩
  | succ k ih =>
    intro i hk hi
    have hN : i < N := by omega
    obtain ⟨hu, -⟩ := h.2.2.1 i hN
    by_cases hb : u i = 32
    · have hs : sb u N i = sb u N (i + 1) := sc_go ⟨hN, by rw [blP]; exact decide_eq_true hb⟩
      rw [hs]
      refine r_aload_n 0 d_Text_skipBlanks_0 rfl rfl ?_
      refine r_getI fl_Text_19 (by first | with_reducible assumption | rfl) rfl d_Text_skipBlanks_1 ?_
      rw [pl_2]
      refine r_aload_n 0 d_Text_skipBlanks_4 rfl rfl ?_
      refine r_getI fl_Text_15 (by first | with_reducible assumption | rfl) rfl d_Text_skipBlanks_5 ?_
      rw [pl_1, h.1]
      refine r_icmp_ge d_Text_skipBlanks_8 (fun h8 => absurd h8 (nI_ge hN (by omega))) (fun h8 => ?_)
      refine r_aload_n 0 d_Text_skipBlanks_11 rfl rfl ?_
      refine r_getR fl_Text_9 (by first | with_reducible assumption | rfl) rfl d_Text_skipBlanks_12 ?_
      refine r_aload_n 0 d_Text_skipBlanks_15 rfl rfl ?_
      refine r_getI fl_Text_19 (by first | with_reducible assumption | rfl) rfl d_Text_skipBlanks_16 ?_
      rw [pl_2]
      refine r_baldN (by first | with_reducible assumption | rfl) (show i < 200 by omega) d_Text_skipBlanks_19 ?_
      rw [h.b hN]
      refine r_bipush (32) d_Text_skipBlanks_20 (by decide) ?_
      refine r_icmp_ne d_Text_skipBlanks_22 (fun h22 => absurd (by exact ((sg_32 ⟨u i, hu⟩).mpr hb)) h22) (fun h22 => ?_)
      refine r_aload_n 0 d_Text_skipBlanks_25 rfl rfl ?_
      refine r_dup d_Text_skipBlanks_26 rfl ?_
      refine r_getI fl_Text_19 (by first | with_reducible assumption | rfl) rfl d_Text_skipBlanks_27 ?_
      rw [pl_2]
      refine r_iconst 1 d_Text_skipBlanks_30 rfl ?_
      refine r_iadd d_Text_skipBlanks_31 ?_
      rw [nI_1]
      refine r_putI fp_Text_19 (by first | with_reducible assumption | rfl) rfl d_Text_skipBlanks_32 ?_
      refine r_goto d_Text_skipBlanks_35 ?_
      refine Wa.eqM (μ' := pl μ (i + 1)) pl_pl ?_
      exact ih (i + 1) (by omega) (by omega)
    · have hs : sb u N i = i := sc_stop (fun z => hb (by have := z.2; rw [blP] at this; exact of_decide_eq_true this))
      rw [hs]
      refine r_aload_n 0 d_Text_skipBlanks_0 rfl rfl ?_
      refine r_getI fl_Text_19 (by first | with_reducible assumption | rfl) rfl d_Text_skipBlanks_1 ?_
      rw [pl_2]
      refine r_aload_n 0 d_Text_skipBlanks_4 rfl rfl ?_
      refine r_getI fl_Text_15 (by first | with_reducible assumption | rfl) rfl d_Text_skipBlanks_5 ?_
      rw [pl_1, h.1]
      refine r_icmp_ge d_Text_skipBlanks_8 (fun h8 => absurd h8 (nI_ge hN (by omega))) (fun h8 => ?_)
      refine r_aload_n 0 d_Text_skipBlanks_11 rfl rfl ?_
      refine r_getR fl_Text_9 (by first | with_reducible assumption | rfl) rfl d_Text_skipBlanks_12 ?_
      refine r_aload_n 0 d_Text_skipBlanks_15 rfl rfl ?_
      refine r_getI fl_Text_19 (by first | with_reducible assumption | rfl) rfl d_Text_skipBlanks_16 ?_
      rw [pl_2]
      refine r_baldN (by first | with_reducible assumption | rfl) (show i < 200 by omega) d_Text_skipBlanks_19 ?_
      rw [h.b hN]
      refine r_bipush (32) d_Text_skipBlanks_20 (by decide) ?_
      refine r_icmp_ne d_Text_skipBlanks_22 (fun h22 => ?_) (fun h22 => absurd h22 (fun z => hb ((sg_32 ⟨u i, hu⟩).mp z)))
      refine r_ret d_Text_skipBlanks_38 rfl ?_
      exact ⟨rfl, rfl⟩
set_option maxHeartbeats 400000 in
theorem c_Text_skipBlanks {μ : Me} {u : Nat → Nat} {N p : Nat} (h : TpC μ u N p) : CtV m_Text_skipBlanks 0 [.ref 47] μ (pl μ (sb u N p)) := by
  refine Ct.of (ls := [.ref 47]) rfl (Nat.le_of_ble_eq_true rfl) rfl (fun X => ?_)
  refine Wa.eqM h.self ?_
  exact c_Text_skipBlanks_l X h (N - p) p rfl h.2.2.2.2
set_option maxHeartbeats 400000 in
theorem c_Text_endOfRow {μ : Me} {u : Nat → Nat} {N p : Nat} (h : TpC μ u N p) (lo hi : Int32) (P : Nat → Bool) (hP : ∀ i, i < N → ((¬ sg (u i) < lo ∧ sg (u i) ≤ hi) ↔ P i = true)) : CtI m_Text_endOfRow 0 [.ref 47, .int lo, .int hi] μ (nI (sc P N p)) μ := by
  refine Ct.of (ls := [.ref 47, .int lo, .int hi, flr]) rfl (Nat.le_of_ble_eq_true rfl) rfl (fun X => ?_)
  have h200 := h.2.1
  have key : ∀ k i, N - i = k → i ≤ N → Wa X m_Text_endOfRow 0 5 [.ref 47, .int lo, .int hi, .int (nI i)] [] μ (fun r μ' => r = some (.int (nI (sc P N i))) ∧ μ' = μ) := by
    intro k
    induction k with
    | zero =>
      intro i hk hi'
      have hs : sc P N i = i := sc_stop (fun z => by omega)
      rw [hs]
      refine r_iload_n 3 d_Text_endOfRow_5 rfl rfl ?_
      refine r_aload_n 0 d_Text_endOfRow_6 rfl rfl ?_
      refine r_getI fl_Text_15 (by first | with_reducible assumption | rfl) rfl d_Text_endOfRow_7 ?_
      rw [h.1]
      refine r_icmp_ge d_Text_endOfRow_10 (fun h10 => ?_) (fun h10 => absurd (nI_le (by omega) (by omega)) h10)
      refine r_iload_n 3 d_Text_endOfRow_39 rfl rfl ?_
      refine r_iret .int d_Text_endOfRow_40 rfl rfl ?_
      exact ⟨rfl, rfl⟩
    | succ k ih =>
      intro i hk hi'
      have hN : i < N := by omega
      have hbi : μ.1 48 i = sg (u i) := (h.2.2.1 i hN).2
      by_cases hb : P i = true
      · have hs : sc P N i = sc P N (i + 1) := sc_go ⟨hN, hb⟩
        rw [hs]
        obtain ⟨q1, q2⟩ := (hP i hN).mpr hb
        refine r_iload_n 3 d_Text_endOfRow_5 rfl rfl ?_
        refine r_aload_n 0 d_Text_endOfRow_6 rfl rfl ?_
        refine r_getI fl_Text_15 (by first | with_reducible assumption | rfl) rfl d_Text_endOfRow_7 ?_
        rw [h.1]
        refine r_icmp_ge d_Text_endOfRow_10 (fun h10 => absurd h10 (nI_ge hN (by omega))) (fun h10 => ?_)
        refine r_aload_n 0 d_Text_endOfRow_13 rfl rfl ?_
        refine r_getR fl_Text_9 (by first | with_reducible assumption | rfl) rfl d_Text_endOfRow_14 ?_
        refine r_iload_n 3 d_Text_endOfRow_17 rfl rfl ?_
        refine r_baldN (by first | with_reducible assumption | rfl) (show i < 200 by omega) d_Text_endOfRow_18 ?_
        rw [hbi]
        refine r_iload_n 1 d_Text_endOfRow_19 rfl rfl ?_
        refine r_icmp_lt d_Text_endOfRow_20 (fun h20 => absurd h20 q1) (fun h20 => ?_)
        refine r_aload_n 0 d_Text_endOfRow_23 rfl rfl ?_
        refine r_getR fl_Text_9 (by first | with_reducible assumption | rfl) rfl d_Text_endOfRow_24 ?_
        refine r_iload_n 3 d_Text_endOfRow_27 rfl rfl ?_
        refine r_baldN (by first | with_reducible assumption | rfl) (show i < 200 by omega) d_Text_endOfRow_28 ?_
        rw [hbi]
        refine r_iload_n 2 d_Text_endOfRow_29 rfl rfl ?_
        refine r_icmp_gt d_Text_endOfRow_30 (fun h30 => absurd h30 (Int32.not_lt.mpr q2)) (fun h30 => ?_)
        first | refine r_iincN 3 [_, _, _, _] d_Text_endOfRow_33 (by decide) rfl rfl ?_ | refine r_iinc 3 [_, _, _, _] (1) d_Text_endOfRow_33 (by decide) (by decide) rfl rfl ?_
        refine r_goto d_Text_endOfRow_36 ?_
        exact ih (i + 1) (by omega) (by omega)
      · have hs : sc P N i = i := sc_stop (fun z => hb z.2)
        rw [hs]
        refine r_iload_n 3 d_Text_endOfRow_5 rfl rfl ?_
        refine r_aload_n 0 d_Text_endOfRow_6 rfl rfl ?_
        refine r_getI fl_Text_15 (by first | with_reducible assumption | rfl) rfl d_Text_endOfRow_7 ?_
        rw [h.1]
        refine r_icmp_ge d_Text_endOfRow_10 (fun h10 => absurd h10 (nI_ge hN (by omega))) (fun h10 => ?_)
        refine r_aload_n 0 d_Text_endOfRow_13 rfl rfl ?_
        refine r_getR fl_Text_9 (by first | with_reducible assumption | rfl) rfl d_Text_endOfRow_14 ?_
        refine r_iload_n 3 d_Text_endOfRow_17 rfl rfl ?_
        refine r_baldN (by first | with_reducible assumption | rfl) (show i < 200 by omega) d_Text_endOfRow_18 ?_
        rw [hbi]
        refine r_iload_n 1 d_Text_endOfRow_19 rfl rfl ?_
        refine r_icmp_lt d_Text_endOfRow_20 (fun h20 => ?_) (fun h20 => ?_)
        · refine r_iload_n 3 d_Text_endOfRow_39 rfl rfl ?_
          refine r_iret .int d_Text_endOfRow_40 rfl rfl ?_
          exact ⟨rfl, rfl⟩
        · refine r_aload_n 0 d_Text_endOfRow_23 rfl rfl ?_
          refine r_getR fl_Text_9 (by first | with_reducible assumption | rfl) rfl d_Text_endOfRow_24 ?_
          refine r_iload_n 3 d_Text_endOfRow_27 rfl rfl ?_
          refine r_baldN (by first | with_reducible assumption | rfl) (show i < 200 by omega) d_Text_endOfRow_28 ?_
          rw [hbi]
          refine r_iload_n 2 d_Text_endOfRow_29 rfl rfl ?_
          refine r_icmp_gt d_Text_endOfRow_30 (fun h30 => ?_) (fun h30 => absurd (Int32.not_le.mp (fun z => hb ((hP i hN).mp ⟨h20, z⟩))) h30)
          refine r_iload_n 3 d_Text_endOfRow_39 rfl rfl ?_
          refine r_iret .int d_Text_endOfRow_40 rfl rfl ?_
          exact ⟨rfl, rfl⟩
  refine r_aload_n 0 d_Text_endOfRow_0 rfl rfl ?_
  refine r_getI fl_Text_19 (by first | with_reducible assumption | rfl) rfl d_Text_endOfRow_1 ?_
  rw [h.2.2.2.1]
  refine r_istore_n 3 [_, _, _, _] d_Text_endOfRow_4 rfl (by decide) rfl ?_
  exact key (N - p) p rfl h.2.2.2.2
theorem dg_ok {μ : Me} {u : Nat → Nat} {N p : Nat} (h : TpC μ u N p) : ∀ i, i < N → ((¬ sg (u i) < 48 ∧ sg (u i) ≤ 57) ↔ dgP u i = true) := fun i hi => by
  rw [dgP, decide_eq_true_iff]
  exact sg_dg ⟨u i, (h.2.2.1 i hi).1⟩
theorem lt_ok {μ : Me} {u : Nat → Nat} {N p : Nat} (h : TpC μ u N p) : ∀ i, i < N → ((¬ sg (u i) < 97 ∧ sg (u i) ≤ 122) ↔ ltP u i = true) := fun i hi => by
  rw [ltP, decide_eq_true_iff]
  exact sg_lt ⟨u i, (h.2.2.1 i hi).1⟩
set_option maxHeartbeats 400000 in
theorem c_Text_isNextSemicolon {μ : Me} {u : Nat → Nat} {N p : Nat} (h : TpC μ u N p) : CtI m_Text_isNextSemicolon 1 [.ref 47] μ (bz (smOk u N p)) (pl μ (if smOk u N p then sb u N p + 1 else sb u N p)) := by
  refine Ct.of (ls := [.ref 47]) rfl (Nat.le_of_ble_eq_true rfl) rfl (fun X => ?_)
  have h200 := h.2.1
  have hs := sb_le (u := u) h.2.2.2.2
  by_cases hk : smOk u N p
  · rw [if_pos hk, ← bz_t hk]
    obtain ⟨k1, k2⟩ := hk
    refine r_aload_n 0 d_Text_isNextSemicolon_0 rfl rfl ?_
    refine r_callVv (c_Text_skipBlanks h) lk_Text_27 (by first | with_reducible assumption | rfl) d_Text_isNextSemicolon_1 rfl rfl (Nat.le_of_ble_eq_true rfl) (by decide) ?_
    refine r_aload_n 0 d_Text_isNextSemicolon_4 rfl rfl ?_
    refine r_getI fl_Text_19 (by first | with_reducible assumption | rfl) rfl d_Text_isNextSemicolon_5 ?_
    rw [pl_2]
    refine r_aload_n 0 d_Text_isNextSemicolon_8 rfl rfl ?_
    refine r_getI fl_Text_15 (by first | with_reducible assumption | rfl) rfl d_Text_isNextSemicolon_9 ?_
    rw [pl_1, h.1]
    refine r_icmp_ge d_Text_isNextSemicolon_12 (fun h12 => absurd h12 (nI_ge k1 (by omega))) (fun h12 => ?_)
    refine r_aload_n 0 d_Text_isNextSemicolon_15 rfl rfl ?_
    refine r_getR fl_Text_9 (by first | with_reducible assumption | rfl) rfl d_Text_isNextSemicolon_16 ?_
    refine r_aload_n 0 d_Text_isNextSemicolon_19 rfl rfl ?_
    refine r_getI fl_Text_19 (by first | with_reducible assumption | rfl) rfl d_Text_isNextSemicolon_20 ?_
    rw [pl_2]
    refine r_baldN (by first | with_reducible assumption | rfl) (show sb u N p < 200 by omega) d_Text_isNextSemicolon_23 ?_
    rw [h.b k1]
    refine r_bipush (59) d_Text_isNextSemicolon_24 (by decide) ?_
    refine r_icmp_eq d_Text_isNextSemicolon_26 (fun h26 => ?_) (fun h26 => absurd ((sg_59 ⟨_, (h.2.2.1 _ k1).1⟩).mpr k2) h26)
    refine r_aload_n 0 d_Text_isNextSemicolon_31 rfl rfl ?_
    refine r_dup d_Text_isNextSemicolon_32 rfl ?_
    refine r_getI fl_Text_19 (by first | with_reducible assumption | rfl) rfl d_Text_isNextSemicolon_33 ?_
    rw [pl_2]
    refine r_iconst 1 d_Text_isNextSemicolon_36 rfl ?_
    refine r_iadd d_Text_isNextSemicolon_37 ?_
    rw [nI_1]
    refine r_putI fp_Text_19 (by first | with_reducible assumption | rfl) rfl d_Text_isNextSemicolon_38 ?_
    refine r_iconst 1 d_Text_isNextSemicolon_41 rfl ?_
    refine r_iret .boolean d_Text_isNextSemicolon_42 rfl (by first | decide | assumption) ?_
    exact ⟨rfl, pl_pl⟩
  · rw [if_neg hk, ← bz_f hk]
    refine r_aload_n 0 d_Text_isNextSemicolon_0 rfl rfl ?_
    refine r_callVv (c_Text_skipBlanks h) lk_Text_27 (by first | with_reducible assumption | rfl) d_Text_isNextSemicolon_1 rfl rfl (Nat.le_of_ble_eq_true rfl) (by decide) ?_
    refine r_aload_n 0 d_Text_isNextSemicolon_4 rfl rfl ?_
    refine r_getI fl_Text_19 (by first | with_reducible assumption | rfl) rfl d_Text_isNextSemicolon_5 ?_
    rw [pl_2]
    refine r_aload_n 0 d_Text_isNextSemicolon_8 rfl rfl ?_
    refine r_getI fl_Text_15 (by first | with_reducible assumption | rfl) rfl d_Text_isNextSemicolon_9 ?_
    rw [pl_1, h.1]
    refine r_icmp_ge d_Text_isNextSemicolon_12 (fun h12 => ?_) (fun h12 => ?_)
    · refine r_iconst 0 d_Text_isNextSemicolon_29 rfl ?_
      refine r_iret .boolean d_Text_isNextSemicolon_30 rfl (by first | decide | assumption) ?_
      exact ⟨rfl, rfl⟩
    · have k1 : sb u N p < N := n_lt h12 rfl rfl (by omega) (by omega)
      refine r_aload_n 0 d_Text_isNextSemicolon_15 rfl rfl ?_
      refine r_getR fl_Text_9 (by first | with_reducible assumption | rfl) rfl d_Text_isNextSemicolon_16 ?_
      refine r_aload_n 0 d_Text_isNextSemicolon_19 rfl rfl ?_
      refine r_getI fl_Text_19 (by first | with_reducible assumption | rfl) rfl d_Text_isNextSemicolon_20 ?_
      rw [pl_2]
      refine r_baldN (by first | with_reducible assumption | rfl) (show sb u N p < 200 by omega) d_Text_isNextSemicolon_23 ?_
      rw [h.b k1]
      refine r_bipush (59) d_Text_isNextSemicolon_24 (by decide) ?_
      refine r_icmp_eq d_Text_isNextSemicolon_26 (fun h26 => absurd h26 (fun z => hk ⟨k1, (sg_59 ⟨_, (h.2.2.1 _ k1).1⟩).mp z⟩)) (fun h26 => ?_)
      refine r_iconst 0 d_Text_isNextSemicolon_29 rfl ?_
      refine r_iret .boolean d_Text_isNextSemicolon_30 rfl (by first | decide | assumption) ?_
      exact ⟨rfl, rfl⟩
