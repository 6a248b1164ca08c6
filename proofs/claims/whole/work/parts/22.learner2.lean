theorem uI_rI {μ : Me} {c j : Nat} {f : Nat → Int32} {v : Int32} : uI (rI μ c f) c j v = rI μ c (upd f j v) := by
  refine Me_ext (fun c' j' => ?_) (fun _ _ => rfl)
  by_cases h : c' = c
  · subst h; simp [uI, rI]
  · simp [uI, rI, h]
theorem rI_rI {μ : Me} {c : Nat} {f g : Nat → Int32} : rI (rI μ c f) c g = rI μ c g := by
  refine Me_ext (fun c' j' => ?_) (fun _ _ => rfl)
  by_cases h : c' = c
  · subst h; simp [rI]
  · simp [rI, h]
theorem rI_self {μ : Me} {c : Nat} : rI μ c (μ.1 c) = μ := by
  refine Me_ext (fun c' j' => ?_) (fun _ _ => rfl)
  by_cases h : c' = c
  · subst h; simp [rI]
  · simp [rI, h]
theorem rI_comm {μ : Me} {c c' : Nat} {f g : Nat → Int32} (h : c ≠ c') : rI (rI μ c f) c' g = rI (rI μ c' g) c f := by
  refine Me_ext (fun a j' => ?_) (fun _ _ => rfl)
  by_cases h1 : a = c'
  · subst h1; simp [rI, Ne.symm h]
  · by_cases h2 : a = c
    · subst h2; simp [rI, h]
    · simp [rI, h1, h2]
/-- the three rows of a LEARNER's head -/
def r3 (μ : Me) (c : Nat) (f r l : Nat → Int32) : Me := rI (rI (rI μ (c + 1) f) (c + 2) r) (c + 3) l
theorem r3_1 {μ : Me} {c : Nat} {f r l : Nat → Int32} : (r3 μ c f r l).1 (c + 1) = f := by simp [r3, rI]
theorem r3_2 {μ : Me} {c : Nat} {f r l : Nat → Int32} : (r3 μ c f r l).1 (c + 2) = r := by simp [r3, rI]
theorem r3_3 {μ : Me} {c : Nat} {f r l : Nat → Int32} : (r3 μ c f r l).1 (c + 3) = l := by simp [r3, rI]
theorem r3_ne {μ : Me} {c c' : Nat} {f r l : Nat → Int32} (h1 : c' ≠ c + 1) (h2 : c' ≠ c + 2) (h3 : c' ≠ c + 3) : (r3 μ c f r l).1 c' = μ.1 c' := by simp [r3, rI, h1, h2, h3]
theorem r3_self {μ : Me} {c : Nat} : r3 μ c (μ.1 (c + 1)) (μ.1 (c + 2)) (μ.1 (c + 3)) = μ := by
  refine Me_ext (fun c' j' => ?_) (fun _ _ => rfl)
  by_cases h1 : c' = c + 1
  · subst h1; simp [r3, rI]
  · by_cases h2 : c' = c + 2
    · subst h2; simp [r3, rI]
    · by_cases h3 : c' = c + 3
      · subst h3; simp [r3, rI]
      · simp [r3, rI, h1, h2, h3]
theorem r3_u1 {μ : Me} {c j : Nat} {f r l : Nat → Int32} {v : Int32} : uI (r3 μ c f r l) (c + 1) j v = r3 μ c (upd f j v) r l := by
  refine Me_ext (fun c' j' => ?_) (fun _ _ => rfl)
  by_cases h1 : c' = c + 1
  · subst h1; simp [r3, rI, uI]
  · by_cases h2 : c' = c + 2
    · subst h2; simp [r3, rI, uI]
    · by_cases h3 : c' = c + 3
      · subst h3; simp [r3, rI, uI]
      · simp [r3, rI, uI, h1, h2, h3]
theorem r3_u2 {μ : Me} {c j : Nat} {f r l : Nat → Int32} {v : Int32} : uI (r3 μ c f r l) (c + 2) j v = r3 μ c f (upd r j v) l := by
  refine Me_ext (fun c' j' => ?_) (fun _ _ => rfl)
  by_cases h1 : c' = c + 1
  · subst h1; simp [r3, rI, uI]
  · by_cases h2 : c' = c + 2
    · subst h2; simp [r3, rI, uI]
    · by_cases h3 : c' = c + 3
      · subst h3; simp [r3, rI, uI]
      · simp [r3, rI, uI, h1, h2, h3]
theorem r3_u3 {μ : Me} {c j : Nat} {f r l : Nat → Int32} {v : Int32} : uI (r3 μ c f r l) (c + 3) j v = r3 μ c f r (upd l j v) := by
  refine Me_ext (fun c' j' => ?_) (fun _ _ => rfl)
  by_cases h1 : c' = c + 1
  · subst h1; simp [r3, rI, uI]
  · by_cases h2 : c' = c + 2
    · subst h2; simp [r3, rI, uI]
    · by_cases h3 : c' = c + 3
      · subst h3; simp [r3, rI, uI]
      · simp [r3, rI, uI, h1, h2, h3]
theorem r3_r3 {μ : Me} {c : Nat} {f r l f' r' l' : Nat → Int32} : r3 (r3 μ c f r l) c f' r' l' = r3 μ c f' r' l' := by
  refine Me_ext (fun c' j' => ?_) (fun _ _ => rfl)
  by_cases h1 : c' = c + 1
  · subst h1; simp [r3, rI]
  · by_cases h2 : c' = c + 2
    · subst h2; simp [r3, rI]
    · by_cases h3 : c' = c + 3
      · subst h3; simp [r3, rI]
      · simp [r3, rI, h1, h2, h3]
/-- the first i places of a row are those of g -/
def cut (i : Nat) (g f : Nat → Int32) : Nat → Int32 := fun p => if p < i then g p else f p
theorem cut_0 {g f : Nat → Int32} : cut 0 g f = f := by funext p; simp [cut]
theorem cut_s {g f : Nat → Int32} {i : Nat} : upd (cut i g f) i (g i) = cut (i + 1) g f := by
  funext p
  by_cases h : p = i
  · subst h; simp [upd, cut]
  · simp only [upd, cut, h, if_false]
    by_cases h2 : p < i
    · simp [h2, Nat.lt_succ_of_lt h2]
    · simp [h2, show ¬ p < i + 1 by omega]
theorem cut_at {g f : Nat → Int32} {i : Nat} : cut i g f i = f i := by simp [cut]
set_option maxHeartbeats 400000 in
theorem c_Learner_sleep {c : Nat} (hc : isL c) (n : Nat) (hn : n < 2 ^ 31) (g : Int32) (μ : Me) (hr : ∀ p, p < 36 → ¬ (100 * (μ.1 (c + 2) p + 1) = 0)) : CtV m_Learner_sleep 1 [.ref c, .int (nI n), .int g] μ (rI μ (c + 1) (sleepF g n (μ.1 (c + 1)) (μ.1 (c + 2)))) := by
  refine Ct.of (ls := [.ref c, .int (nI n), .int g, flr]) rfl (Nat.le_of_ble_eq_true rfl) rfl (fun X => ?_)
  obtain ⟨s9, s0, s1, s2, s3⟩ := hc
  refine r_iconst 0 d_Learner_sleep_0 rfl ?_
  refine r_istore_n 3 [_, _, _, _] d_Learner_sleep_1 rfl (by decide) rfl ?_
  refine lpN 36 (fun i (μ1 : Me) => Wa X m_Learner_sleep 1 2 [.ref c, .int (nI n), .int g, .int (nI i)] [] μ1 _) (fun i μ1 => μ1 = rI μ (c + 1) (cut i (fun p => behS (μ.1 (c + 2) p) g n (μ.1 (c + 1) p)) (μ.1 (c + 1)))) ?_ 0 μ (Nat.zero_le _) (by rw [cut_0, rI_self])
  intro i μ1 hi hw hk
  subst hw
  refine r_iload_n 3 d_Learner_sleep_2 rfl rfl ?_
  refine r_bipush (36) d_Learner_sleep_3 (by decide) ?_
  refine r_icmp_ge d_Learner_sleep_5 (fun h5 => ?_) (fun h5 => ?_)
  · refine r_ret d_Learner_sleep_37 rfl ?_
    have h1 := n_le (a := 36) h5 rfl rfl (by decide) (by omega)
    obtain rfl : i = 36 := by omega
    exact ⟨rfl, rfl⟩
  · have hl : i < 36 := n_lt (a := 36) h5 rfl rfl (by decide) (by omega)
    have e1 : (rI μ (c + 1) (cut i (fun p => behS (μ.1 (c + 2) p) g n (μ.1 (c + 1) p)) (μ.1 (c + 1)))).1 (c + 1) i = μ.1 (c + 1) i := by rw [rI_eq, cut_at]
    have e2 : (rI μ (c + 1) (cut i (fun p => behS (μ.1 (c + 2) p) g n (μ.1 (c + 1) p)) (μ.1 (c + 1)))).1 (c + 2) i = μ.1 (c + 2) i := by rw [rI_ne (by omega)]
    refine r_aload_n 0 d_Learner_sleep_8 rfl rfl ?_
    refine r_getR fl_Learner_18 (by first | with_reducible assumption | rfl) rfl d_Learner_sleep_9 ?_
    refine r_iload_n 3 d_Learner_sleep_12 rfl rfl ?_
    refine r_aload_n 0 d_Learner_sleep_13 rfl rfl ?_
    refine r_getR fl_Learner_18 (by first | with_reducible assumption | rfl) rfl d_Learner_sleep_14 ?_
    refine r_iload_n 3 d_Learner_sleep_17 rfl rfl ?_
    refine r_ialdN (by first | with_reducible assumption | rfl) (by first | with_reducible assumption | omega | decide | assumption) d_Learner_sleep_18 ?_
    refine r_aload_n 0 d_Learner_sleep_19 rfl rfl ?_
    refine r_getR fl_Learner_22 (by first | with_reducible assumption | rfl) rfl d_Learner_sleep_20 ?_
    refine r_iload_n 3 d_Learner_sleep_23 rfl rfl ?_
    refine r_ialdN (by first | with_reducible assumption | rfl) (by first | with_reducible assumption | omega | decide | assumption) d_Learner_sleep_24 ?_
    refine r_iload_n 1 d_Learner_sleep_25 rfl rfl ?_
    refine r_iload_n 2 d_Learner_sleep_26 rfl rfl ?_
    refine r_callSNi (c_S_firmBehindNights _ _ _ _ hn (by rw [e2]; exact hr i hl) _) lk_Learner_68 d_Learner_sleep_27 rfl rfl (Nat.le_of_ble_eq_true rfl) (by decide) ?_
    refine r_iastN (by first | with_reducible assumption | rfl) (by first | with_reducible assumption | omega | decide | assumption) d_Learner_sleep_30 ?_
    first | refine r_iincN 3 [_, _, _, _] d_Learner_sleep_31 (by decide) rfl rfl ?_ | refine r_iinc 3 [_, _, _, _] (1) d_Learner_sleep_31 (by decide) (by decide) rfl rfl ?_
    refine r_goto d_Learner_sleep_34 ?_
    refine hk _ hl ?_
    rw [e1, e2, uI_rI, ← cut_s]
set_option maxHeartbeats 400000 in
theorem c_Learner_start {c : Nat} (hc : isL c) (k a : Int32) (μ : Me) : CtV m_Learner_start 1 [.ref c, .int k, .int a] μ (r3 (uI (uI μ c 0 k) c 1 a) c (cut 36 firstS (μ.1 (c + 1))) (cut 36 (fun _ => 0) (μ.1 (c + 2))) (cut 36 (fun _ => -9) (μ.1 (c + 3)))) := by
  refine Ct.of (ls := [.ref c, .int k, .int a, flr]) rfl (Nat.le_of_ble_eq_true rfl) rfl (fun X => ?_)
  obtain ⟨s9, s0, s1, s2, s3⟩ := hc
  refine r_aload_n 0 d_Learner_start_0 rfl rfl ?_
  refine r_iload_n 1 d_Learner_start_1 rfl rfl ?_
  refine r_putI fp_Learner_9 (by first | with_reducible assumption | rfl) rfl d_Learner_start_2 ?_
  refine r_aload_n 0 d_Learner_start_5 rfl rfl ?_
  refine r_iload_n 2 d_Learner_start_6 rfl rfl ?_
  refine r_putI fp_Learner_15 (by first | with_reducible assumption | rfl) rfl d_Learner_start_7 ?_
  refine r_iconst 0 d_Learner_start_10 rfl ?_
  refine r_istore_n 3 [_, _, _, _] d_Learner_start_11 rfl (by decide) rfl ?_
  refine lpN 36 (fun i (μ1 : Me) => Wa X m_Learner_start 1 12 [.ref c, .int k, .int a, .int (nI i)] [] μ1 _) (fun i μ1 => μ1 = r3 (uI (uI μ c 0 k) c 1 a) c (cut i firstS (μ.1 (c + 1))) (cut i (fun _ => 0) (μ.1 (c + 2))) (cut i (fun _ => -9) (μ.1 (c + 3)))) ?_ 0 _ (Nat.zero_le _) ?_
  · intro i μ1 hi hw hk
    subst hw
    refine r_iload_n 3 d_Learner_start_12 rfl rfl ?_
    refine r_bipush (36) d_Learner_start_13 (by decide) ?_
    refine r_icmp_ge d_Learner_start_15 (fun h15 => ?_) (fun h15 => ?_)
    · refine r_ret d_Learner_start_49 rfl ?_
      have h1 := n_le (a := 36) h15 rfl rfl (by decide) (by omega)
      obtain rfl : i = 36 := by omega
      exact ⟨rfl, rfl⟩
    · have hl : i < 36 := n_lt (a := 36) h15 rfl rfl (by decide) (by omega)
      refine r_aload_n 0 d_Learner_start_18 rfl rfl ?_
      refine r_getR fl_Learner_18 (by first | with_reducible assumption | rfl) rfl d_Learner_start_19 ?_
      refine r_iload_n 3 d_Learner_start_22 rfl rfl ?_
      refine r_iload_n 3 d_Learner_start_23 rfl rfl ?_
      refine r_callSNi (c_S_firmAtFirst _ hl _) lk_Learner_28 d_Learner_start_24 rfl rfl (Nat.le_of_ble_eq_true rfl) (by decide) ?_
      refine r_iastN (by first | with_reducible assumption | rfl) (by first | with_reducible assumption | omega | decide | assumption) d_Learner_start_27 ?_
      refine r_aload_n 0 d_Learner_start_28 rfl rfl ?_
      refine r_getR fl_Learner_22 (by first | with_reducible assumption | rfl) rfl d_Learner_start_29 ?_
      refine r_iload_n 3 d_Learner_start_32 rfl rfl ?_
      refine r_iconst 0 d_Learner_start_33 rfl ?_
      refine r_iastN (by first | with_reducible assumption | rfl) (by first | with_reducible assumption | omega | decide | assumption) d_Learner_start_34 ?_
      refine r_aload_n 0 d_Learner_start_35 rfl rfl ?_
      refine r_getR fl_Learner_25 (by first | with_reducible assumption | rfl) rfl d_Learner_start_36 ?_
      refine r_iload_n 3 d_Learner_start_39 rfl rfl ?_
      refine r_bipush (-9) d_Learner_start_40 (by decide) ?_
      refine r_iastN (by first | with_reducible assumption | rfl) (by first | with_reducible assumption | omega | decide | assumption) d_Learner_start_42 ?_
      first | refine r_iincN 3 [_, _, _, _] d_Learner_start_43 (by decide) rfl rfl ?_ | refine r_iinc 3 [_, _, _, _] (1) d_Learner_start_43 (by decide) (by decide) rfl rfl ?_
      refine r_goto d_Learner_start_46 ?_
      refine hk _ hl ?_
      rw [r3_u1, r3_u2, r3_u3, ← cut_s, ← cut_s, ← cut_s]
  · rw [cut_0, cut_0, cut_0]
    have e : ∀ j, j ≠ c → (uI (uI μ c 0 k) c 1 a).1 j = μ.1 j := fun j hj => by rw [uI_ne hj, uI_ne hj]
    rw [← e (c + 1) (by omega), ← e (c + 2) (by omega), ← e (c + 3) (by omega), r3_self]
