/-! THE LESSON, by the reference -/
theorem Ct.mono {mt : MT} {d : Nat} {avs : List Value} {μ : Me} {post post' : Option Value → Me → Prop} (h : ∀ r μ', post r μ' → post' r μ') (k : Ct mt d avs μ post) : Ct mt d avs μ post' := by
  intro l X D cA ta b0
  refine MetFree.mono (k l X D cA ta b0) (fun _ _ z => z) (fun _ _ _ _ _ _ => trivial) (fun a s o t _ z => ?_)
  obtain ⟨⟨⟨r, μ', h1, h2, h3⟩, h4⟩, h5⟩ := z
  exact ⟨⟨⟨r, μ', h1, h r μ' h2, h3⟩, h4⟩, h5⟩
def lgM (μ : Me) (u : Nat → Nat) (N : Nat) : Nat → Me
  | 0 => μ
  | i + 1 => fgM (lgM μ u N i) i (itV u N (ps u N i)).1 (itV u N (ps u N i)).2.1 (itV u N (ps u N i)).2.2
theorem fg_ne {μ : Me} {n c : Nat} {a b e : Int32} (h : c ≠ 90) : (fgM μ n a b e).1 c = μ.1 c := by
  unfold fgM
  rw [uI_ne h, uI_ne h, uI_ne h]
theorem lg_ne {μ : Me} {u : Nat → Nat} {N c : Nat} (h : c ≠ 90) : ∀ i, (lgM μ u N i).1 c = μ.1 c
  | 0 => rfl
  | i + 1 => by rw [lgM, fg_ne h, lg_ne h i]
theorem lg_2 {μ : Me} {u : Nat → Nat} {N : Nat} : ∀ i, (lgM μ u N i).2 = μ.2
  | 0 => rfl
  | i + 1 => lg_2 (μ := μ) (u := u) (N := N) i
theorem lg_at {μ : Me} {u : Nat → Nat} {N : Nat} : ∀ n i, i < n → (lgM μ u N n).1 90 (3 * i) = (itV u N (ps u N i)).1 ∧ (lgM μ u N n).1 90 (3 * i + 1) = (itV u N (ps u N i)).2.1 ∧ (lgM μ u N n).1 90 (3 * i + 2) = (itV u N (ps u N i)).2.2
  | 0, i, h => absurd h (by omega)
  | n + 1, i, h => by
    rw [lgM]
    unfold fgM
    by_cases e : i = n
    · subst e
      refine ⟨?_, ?_, ?_⟩
      · rw [uI_off (by omega), uI_off (by omega), uI_at]
      · rw [uI_off (by omega), uI_at]
      · rw [uI_at]
    · obtain ⟨a1, a2, a3⟩ := lg_at (μ := μ) (u := u) (N := N) n i (by omega)
      refine ⟨?_, ?_, ?_⟩
      · rw [uI_off (by omega), uI_off (by omega), uI_off (by omega)]; exact a1
      · rw [uI_off (by omega), uI_off (by omega), uI_off (by omega)]; exact a2
      · rw [uI_off (by omega), uI_off (by omega), uI_off (by omega)]; exact a3
theorem TmB.lg {μ : Me} {u : Nat → Nat} {N : Nat} (h : TmB μ u N) (i : Nat) : TmB (lgM μ u N i) u N := ⟨by rw [lg_ne (by decide)]; exact h.1, h.2.1, fun j hj => by rw [lg_ne (by decide)]; exact h.2.2 j hj⟩
theorem tkS_y {u : Nat → Nat} {N p : Nat} (h : sb u N p < N) : ¬ tkS u N p = 0 := by
  rw [tkS, if_pos h]
  split
  · decide
  · split
    · decide
    · decide
theorem tkS_n {u : Nat → Nat} {N p : Nat} (h : N ≤ sb u N p) : tkS u N p = 0 := by rw [tkS, if_neg (by omega)]
theorem tg_ne {μ : Me} {u : Nat → Nat} {N p c : Nat} {g : Int32} (h : c ≠ 82) : (TG μ u N g p).1 c = μ.1 c := by
  unfold TG TK
  rw [tk_ne h, uI_ne h]
theorem tg_o {μ : Me} {u : Nat → Nat} {N p j : Nat} {g : Int32} (h : j ≠ 12 ∧ j ≠ 13 ∧ j ≠ 14 ∧ j ≠ 16 ∧ j ≠ 17) : (TG μ u N g p).1 82 j = μ.1 82 j := by
  unfold TG TK
  rw [tk_o h.1 h.2.1 h.2.2.1 h.2.2.2.1, uI_off h.2.2.2.2]
theorem tg_L {μ : Me} {u : Nat → Nat} {N p c : Nat} {g : Int32} (h : c ≠ 82) : (TG μ u N g p).2 c = μ.2 c := by
  unfold TG TK tkM
  simp only [if_neg h]
  rfl
theorem tg_start {μ : Me} : uI (uI μ 82 14 0) 82 17 1 = tkM (uI μ 82 17 1) (μ.1 82 13) (nI 0) (μ.1 82 12) (μ.1 82 16) (μ.2 82 15) := by
  rw [uI_swap (by decide)]
  have e := tk_self (μ := uI μ 82 17 1)
  rw [uI_off (by decide), uI_off (by decide), uI_off (by decide), uI_off (by decide)] at e
  conv => lhs; rw [← e]
  rw [tk_14]
  rfl
set_option maxHeartbeats 400000 in
theorem c_ml_step (X : Nat × (Nat → Int32)) {μ : Me} {u : Nat → Nat} {N n : Nat} (h : TmB μ u N) (hn : n ≤ 12) (hg : ∀ j, j < n → gdI u N j) (post : Option Value → Me → Prop) (hend : Wa X m_M_lesson 5 16 [.ref 82, .int (nI n), flr] [] (TG (lgM μ u N n) u N 1 (ps u N n)) post) : ∀ r i, i + r = n → Wa X m_M_lesson 5 16 [.ref 82, .int (nI i), flr] [] (TG (lgM μ u N i) u N 1 (ps u N i)) post := by
  intro r
  induction r with
  | zero =>
    intro i hi
    obtain rfl : i = n := by omega
    exact hend
  | succ r ih =>
    intro i hi
    have ih1 := ih (i + 1) (by omega)
    obtain ⟨g1, g2⟩ := hg i (by omega)
    have hp := ps_le (u := u) (N := N) (i := i) (fun j hj => hg j (by omega))
    have cI := c_wi_y (n := i) (h.lg i) hp (by omega) g2
    refine r_aload_n 0 d_M_lesson_16 rfl rfl ?_
    refine r_getI fl_M_259 (by first | with_reducible assumption | rfl) rfl d_M_lesson_17 ?_
    rw [tg_r17]
    refine r_if_eq d_M_lesson_20 (fun h20 => absurd h20 (by decide)) (fun h20 => ?_)
    refine r_aload_n 0 d_M_lesson_23 rfl rfl ?_
    refine r_getI fl_M_245 (by first | with_reducible assumption | rfl) rfl d_M_lesson_24 ?_
    rw [tg_r12]
    refine r_if_eq d_M_lesson_27 (fun h27 => absurd h27 (tkS_y g1)) (fun h27 => ?_)
    refine r_aload_n 0 d_M_lesson_30 rfl rfl ?_
    refine r_iload_n 1 d_M_lesson_31 rfl rfl ?_
    refine r_callVv cI lk_M_284 (by first | with_reducible assumption | rfl) d_M_lesson_32 rfl rfl (Nat.le_of_ble_eq_true rfl) (by decide) ?_
    first | refine r_iincN 1 [_, _, _] d_M_lesson_35 (by decide) rfl rfl ?_ | refine r_iinc 1 [_, _, _] (1) d_M_lesson_35 (by decide) (by decide) rfl rfl ?_
    refine r_goto d_M_lesson_38 ?_
    exact ih1
set_option maxHeartbeats 400000 in
theorem c_ml_copy (X : Nat × (Nat → Int32)) (ν : Me) {n : Nat} (hn : n ≤ 12) (hi : ν.1 82 18 = nI n) : ∀ r k, k + r = 3 * n → Wa X m_M_lesson 5 68 [.ref 82, .int (nI n), .int (nI k)] [] (rI ν 89 (cut k (ν.1 90) (ν.1 89))) (fun r μ' => r = some (.int (nI n)) ∧ μ' = rI ν 89 (cut (3 * n) (ν.1 90) (ν.1 89))) := by
  intro r
  induction r with
  | zero =>
    intro k hk
    obtain rfl : k = 3 * n := by omega
    refine r_iload_n 2 d_M_lesson_68 rfl rfl ?_
    refine r_iconst 3 d_M_lesson_69 rfl ?_
    refine r_iload_n 1 d_M_lesson_70 rfl rfl ?_
    refine r_imul d_M_lesson_71 ?_
    rw [mul3]
    refine r_icmp_ge d_M_lesson_72 (fun h72 => ?_) (fun h72 => absurd (nI_le (Nat.le_refl _) (by omega)) h72)
    refine r_aload_n 0 d_M_lesson_93 rfl rfl ?_
    refine r_getI fl_M_288 (by first | with_reducible assumption | rfl) rfl d_M_lesson_94 ?_
    rw [rI_ne (by decide), hi]
    refine r_iret .int d_M_lesson_97 rfl rfl ?_
    exact ⟨rfl, rfl⟩
  | succ r ih =>
    intro k hk
    have ih1 := ih (k + 1) (by omega)
    refine r_iload_n 2 d_M_lesson_68 rfl rfl ?_
    refine r_iconst 3 d_M_lesson_69 rfl ?_
    refine r_iload_n 1 d_M_lesson_70 rfl rfl ?_
    refine r_imul d_M_lesson_71 ?_
    rw [mul3]
    refine r_icmp_ge d_M_lesson_72 (fun h72 => absurd h72 (nI_ge (a := k) (b := 3 * n) (by omega) (by omega))) (fun h72 => ?_)
    refine r_aload_n 0 d_M_lesson_75 rfl rfl ?_
    refine r_getR fl_M_32 (by first | with_reducible assumption | rfl) rfl d_M_lesson_76 ?_
    refine r_iload_n 2 d_M_lesson_79 rfl rfl ?_
    refine r_aload_n 0 d_M_lesson_80 rfl rfl ?_
    refine r_getR fl_M_35 (by first | with_reducible assumption | rfl) rfl d_M_lesson_81 ?_
    refine r_iload_n 2 d_M_lesson_84 rfl rfl ?_
    refine r_ialdN (by first | with_reducible assumption | rfl) (show k < 36 by omega) d_M_lesson_85 ?_
    rw [rI_ne (by decide)]
    refine r_iastN (by first | with_reducible assumption | rfl) (show k < 36 by omega) d_M_lesson_86 ?_
    refine Wa.eqM (by rw [uI_rI, cut_s]) ?_
    first | refine r_iincN 2 [_, _, _] d_M_lesson_87 (by decide) rfl rfl ?_ | refine r_iinc 2 [_, _, _] (1) d_M_lesson_87 (by decide) (by decide) rfl rfl ?_
    refine r_goto d_M_lesson_90 ?_
    exact ih1
def lmj (j : Nat) : Prop := j = 11 ∨ j = 12 ∨ j = 13 ∨ j = 14 ∨ j = 16 ∨ j = 17 ∨ j = 18
set_option maxHeartbeats 400000 in
theorem c_M_lesson_ok {μ : Me} {u : Nat → Nat} {N n : Nat} (h : TmB μ u N) (hn : n ≤ 12) (hg : ∀ j, j < n → gdI u N j) (he : N ≤ sb u N (ps u N n)) : Ct m_M_lesson 5 [.ref 82] μ (fun r μ' => r = some (.int (nI n)) ∧ μ'.1 82 18 = nI n ∧ (∀ i, i < n → μ'.1 89 (3 * i) = (itV u N (ps u N i)).1 ∧ μ'.1 89 (3 * i + 1) = (itV u N (ps u N i)).2.1 ∧ μ'.1 89 (3 * i + 2) = (itV u N (ps u N i)).2.2) ∧ μ'.1 82 11 = 0 ∧ (∀ c, c ≠ 82 → c ≠ 89 → c ≠ 90 → μ'.1 c = μ.1 c) ∧ (∀ j, ¬ lmj j → μ'.1 82 j = μ.1 82 j) ∧ (∀ c, c ≠ 82 → μ'.2 c = μ.2 c)) := by
  refine Ct.of (ls := [.ref 82, flr, flr]) rfl (Nat.le_of_ble_eq_true rfl) rfl (fun X => ?_)
  refine r_aload_n 0 d_M_lesson_0 rfl rfl ?_
  refine r_iconst 0 d_M_lesson_1 rfl ?_
  refine r_putI fp_M_230 (by first | with_reducible assumption | rfl) rfl d_M_lesson_2 ?_
  refine r_aload_n 0 d_M_lesson_5 rfl rfl ?_
  refine r_iconst 1 d_M_lesson_6 rfl ?_
  refine r_putZ fp_M_259 (by first | with_reducible assumption | rfl) rfl (by first | exact Or.inl rfl | exact Or.inr rfl | assumption) d_M_lesson_7 ?_
  refine r_iconst 0 d_M_lesson_10 rfl ?_
  refine r_istore_n 1 [_, _, _] d_M_lesson_11 rfl (by decide) rfl ?_
  refine r_aload_n 0 d_M_lesson_12 rfl rfl ?_
  refine Wa.eqM tg_start ?_
  refine r_callVv (c_M_advance (h.g 1) (Nat.zero_le N) _ _ _ _) lk_M_263 (by first | with_reducible assumption | rfl) d_M_lesson_13 rfl rfl (Nat.le_of_ble_eq_true rfl) (by decide) ?_
  refine Wa.eqM (μ' := TG (lgM μ u N 0) u N 1 (ps u N 0)) rfl ?_
  refine c_ml_step X h hn hg _ ?_ n 0 (by omega)
  refine r_aload_n 0 d_M_lesson_16 rfl rfl ?_
  refine r_getI fl_M_259 (by first | with_reducible assumption | rfl) rfl d_M_lesson_17 ?_
  rw [tg_r17]
  refine r_if_eq d_M_lesson_20 (fun h20 => absurd h20 (by decide)) (fun h20 => ?_)
  refine r_aload_n 0 d_M_lesson_23 rfl rfl ?_
  refine r_getI fl_M_245 (by first | with_reducible assumption | rfl) rfl d_M_lesson_24 ?_
  rw [tg_r12]
  refine r_if_eq d_M_lesson_27 (fun h27 => ?_) (fun h27 => absurd (tkS_n he) h27)
  refine r_aload_n 0 d_M_lesson_41 rfl rfl ?_
  refine r_iconst 0 d_M_lesson_42 rfl ?_
  refine r_putI fp_M_225 (by first | with_reducible assumption | rfl) rfl d_M_lesson_43 ?_
  refine r_aload_n 0 d_M_lesson_46 rfl rfl ?_
  refine r_getI fl_M_259 (by first | with_reducible assumption | rfl) rfl d_M_lesson_47 ?_
  rw [uI_off (by decide), tg_r17]
  refine r_if_ne d_M_lesson_50 (fun h50 => ?_) (fun h50 => absurd h50 (by decide))
  refine r_aload_n 0 d_M_lesson_61 rfl rfl ?_
  refine r_iload_n 1 d_M_lesson_62 rfl rfl ?_
  refine r_putI fp_M_288 (by first | with_reducible assumption | rfl) rfl d_M_lesson_63 ?_
  refine r_iconst 0 d_M_lesson_66 rfl ?_
  refine r_istore_n 2 [_, _, _] d_M_lesson_67 rfl (by decide) rfl ?_
  generalize hν : uI (uI (TG (lgM μ u N n) u N 1 (ps u N n)) 82 11 0) 82 18 (nI n) = ν
  have e18 : ν.1 82 18 = nI n := by rw [← hν, uI_at]
  refine Wa.eqM (μ' := rI ν 89 (cut 0 (ν.1 90) (ν.1 89))) (by rw [cut_0, rI_self]) ?_
  refine Wa.mono ?_ (c_ml_copy X ν hn e18 (3 * n) 0 (by omega))
  rintro r μ' ⟨rfl, rfl⟩
  refine ⟨rfl, ?_, ?_, ?_, ?_, ?_, ?_⟩
  · rw [rI_ne (by decide), e18]
  · intro i hi
    obtain ⟨a1, a2, a3⟩ := lg_at (μ := μ) (u := u) (N := N) n i hi
    have e90 : ν.1 90 = (lgM μ u N n).1 90 := by rw [← hν, uI_ne (by decide), uI_ne (by decide), tg_ne (by decide)]
    rw [rI_eq, cut_in (by omega), cut_in (by omega), cut_in (by omega), e90]
    exact ⟨a1, a2, a3⟩
  · rw [rI_ne (by decide), ← hν, uI_off (by decide), uI_at]
  · intro c' h1 h2 h3
    rw [rI_ne h2, ← hν, uI_ne h1, uI_ne h1, tg_ne h1, lg_ne h3]
  · intro j' hj
    unfold lmj at hj
    rw [rI_ne (by decide), ← hν, uI_off (by omega), uI_off (by omega), tg_o (by omega), lg_ne (by decide)]
  · intro c' h1
    rw [rI_2, ← hν, uI_2, uI_2, tg_L h1, lg_2]
set_option maxHeartbeats 400000 in
theorem c_M_lesson_bad {μ : Me} {u : Nat → Nat} {N n : Nat} (h : TmB μ u N) (hn : n ≤ 12) (hg : ∀ j, j < n → gdI u N j) (he : sb u N (ps u N n) < N) (hk : n < 12 → ¬ itK u N (ps u N n)) : Ct m_M_lesson 5 [.ref 82] μ (fun r μ' => r = some (.int (-100 - nI (flt u N n))) ∧ μ'.1 82 11 = 0 ∧ (∀ c, c ≠ 82 → c ≠ 90 → μ'.1 c = μ.1 c) ∧ (∀ j, ¬ lmj j → μ'.1 82 j = μ.1 82 j) ∧ μ'.1 82 18 = μ.1 82 18 ∧ (∀ c, c ≠ 82 → μ'.2 c = μ.2 c)) := by
  refine Ct.of (ls := [.ref 82, flr, flr]) rfl (Nat.le_of_ble_eq_true rfl) rfl (fun X => ?_)
  have hp := ps_le hg
  have cI : Ct m_M_wantItem 4 [.ref 82, .int (nI n)] (TG (lgM μ u N n) u N 1 (ps u N n)) (bdP (lgM μ u N n) u N (flt u N n)) := by
    by_cases h12 : n < 12
    · rw [flt, if_pos h12]
      exact c_wi_n (h.lg n) hp h12 (hk h12)
    · rw [flt, if_neg h12]
      exact Ct.mono (fun r μ' z => ⟨z.1, _, z.2, rfl⟩) (c_wi_12 (by omega) (by omega))
  refine r_aload_n 0 d_M_lesson_0 rfl rfl ?_
  refine r_iconst 0 d_M_lesson_1 rfl ?_
  refine r_putI fp_M_230 (by first | with_reducible assumption | rfl) rfl d_M_lesson_2 ?_
  refine r_aload_n 0 d_M_lesson_5 rfl rfl ?_
  refine r_iconst 1 d_M_lesson_6 rfl ?_
  refine r_putZ fp_M_259 (by first | with_reducible assumption | rfl) rfl (by first | exact Or.inl rfl | exact Or.inr rfl | assumption) d_M_lesson_7 ?_
  refine r_iconst 0 d_M_lesson_10 rfl ?_
  refine r_istore_n 1 [_, _, _] d_M_lesson_11 rfl (by decide) rfl ?_
  refine r_aload_n 0 d_M_lesson_12 rfl rfl ?_
  refine Wa.eqM tg_start ?_
  refine r_callVv (c_M_advance (h.g 1) (Nat.zero_le N) _ _ _ _) lk_M_263 (by first | with_reducible assumption | rfl) d_M_lesson_13 rfl rfl (Nat.le_of_ble_eq_true rfl) (by decide) ?_
  refine Wa.eqM (μ' := TG (lgM μ u N 0) u N 1 (ps u N 0)) rfl ?_
  refine c_ml_step X h hn hg _ ?_ n 0 (by omega)
  refine r_aload_n 0 d_M_lesson_16 rfl rfl ?_
  refine r_getI fl_M_259 (by first | with_reducible assumption | rfl) rfl d_M_lesson_17 ?_
  rw [tg_r17]
  refine r_if_eq d_M_lesson_20 (fun h20 => absurd h20 (by decide)) (fun h20 => ?_)
  refine r_aload_n 0 d_M_lesson_23 rfl rfl ?_
  refine r_getI fl_M_245 (by first | with_reducible assumption | rfl) rfl d_M_lesson_24 ?_
  rw [tg_r12]
  refine r_if_eq d_M_lesson_27 (fun h27 => absurd h27 (tkS_y he)) (fun h27 => ?_)
  refine r_aload_n 0 d_M_lesson_30 rfl rfl ?_
  refine r_iload_n 1 d_M_lesson_31 rfl rfl ?_
  refine r_callV cI lk_M_284 (by first | with_reducible assumption | rfl) d_M_lesson_32 rfl rfl (Nat.le_of_ble_eq_true rfl) (by decide) ?_
  rintro r μ' ⟨rfl, pf, rfl, hpf⟩
  show Wa X _ _ _ _ [] _ _
  first | refine r_iincN 1 [_, _, _] d_M_lesson_35 (by decide) rfl rfl ?_ | refine r_iinc 1 [_, _, _] (1) d_M_lesson_35 (by decide) (by decide) rfl rfl ?_
  refine r_goto d_M_lesson_38 ?_
  refine r_aload_n 0 d_M_lesson_16 rfl rfl ?_
  refine r_getI fl_M_259 (by first | with_reducible assumption | rfl) rfl d_M_lesson_17 ?_
  rw [tg_r17]
  refine r_if_eq d_M_lesson_20 (fun h20 => ?_) (fun h20 => absurd (by decide) h20)
  refine r_aload_n 0 d_M_lesson_41 rfl rfl ?_
  refine r_iconst 0 d_M_lesson_42 rfl ?_
  refine r_putI fp_M_225 (by first | with_reducible assumption | rfl) rfl d_M_lesson_43 ?_
  refine r_aload_n 0 d_M_lesson_46 rfl rfl ?_
  refine r_getI fl_M_259 (by first | with_reducible assumption | rfl) rfl d_M_lesson_47 ?_
  rw [uI_off (by decide), tg_r17]
  refine r_if_ne d_M_lesson_50 (fun h50 => absurd (by decide) h50) (fun h50 => ?_)
  refine r_bipush (-100) d_M_lesson_53 (by decide) ?_
  refine r_aload_n 0 d_M_lesson_55 rfl rfl ?_
  refine r_getI fl_M_233 (by first | with_reducible assumption | rfl) rfl d_M_lesson_56 ?_
  rw [uI_off (by decide), tg_r13, hpf]
  refine r_isub d_M_lesson_59 ?_
  refine r_iret .int d_M_lesson_60 rfl rfl ?_
  refine ⟨rfl, uI_at, ?_, ?_, ?_, ?_⟩
  · intro c' h1 h3
    rw [uI_ne h1, tg_ne h1, lg_ne h3]
  · intro j' hj
    unfold lmj at hj
    rw [uI_off (by omega), tg_o (by omega), lg_ne (by decide)]
  · rw [uI_off (by decide), tg_o (by decide), lg_ne (by decide)]
  · intro c' h1
    rw [uI_2, tg_L h1, lg_2]
