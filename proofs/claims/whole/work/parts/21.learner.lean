/-! a LEARNER: the cell c, and behind it FIRM, RIGHTS, LATEST -/
def isL (c : Nat) : Prop := c ≤ 53 ∧ shp[c]? = some (.inl (2, [0, 0, c + 3, c + 4, c + 5])) ∧ shp[c + 1]? = some (.inr (0, 36, 0, 0)) ∧ shp[c + 2]? = some (.inr (0, 36, 0, 0)) ∧ shp[c + 3]? = some (.inr (0, 36, 0, 0))
def feelS (k a f t : Int32) : Int32 := if k = 3 ∧ t < 3 then (if 0 < f - a then f - a else 0) else if k = 4 then (if f + a < 100 then f + a else 100) else f
def takesS (f : Int32) : Int32 := 1 + (100 - f) / 15
def stepS (k : Int32) : Int32 := if k = 2 ∨ k = 3 then -9 else if k = 1 ∨ k = 4 then 1 else 2
def behS (r g : Int32) : Nat → Int32 → Int32
  | 0, f => f
  | n + 1, f => behS r g n (f - f * g / (100 * (r + 1)))
theorem behS_succ (r g : Int32) (n : Nat) (f : Int32) : behS r g (n + 1) f = behS r g n f - behS r g n f * g / (100 * (r + 1)) := by
  induction n generalizing f with
  | zero => rfl
  | succ n ih => rw [behS, ih]; rfl
def sleepF (g : Int32) (n : Nat) (f r : Nat → Int32) : Nat → Int32 := fun p => if p < 36 then behS (r p) g n (f p) else f p
def boxS (r : Int32) : Int32 := if 1 + r / 2 < 5 then 1 + r / 2 else 5
def dueS (l r : Int32) : Int32 := if l = -9 then 0 else l + 1 <<< ((boxS r - 1) &&& 31)
def sumF (f : Nat → Int32) : Nat → Int32
  | 0 => 0
  | n + 1 => sumF f n + f n
set_option maxHeartbeats 400000 in
theorem c_Learner_takesBy (f : Int32) (μ : Me) : CtI m_Learner_takesBy 0 [.int f] μ (takesS f) μ := by
  refine Ct.of (ls := [.int f]) rfl (Nat.le_of_ble_eq_true rfl) rfl (fun X => ?_)
  refine r_iconst 1 d_Learner_takesBy_0 rfl ?_
  refine r_bipush (100) d_Learner_takesBy_1 (by decide) ?_
  refine r_iload_n 0 d_Learner_takesBy_3 rfl rfl ?_
  refine r_isub d_Learner_takesBy_4 ?_
  refine r_bipush (15) d_Learner_takesBy_5 (by decide) ?_
  refine r_idiv d_Learner_takesBy_7 (by first | decide | assumption) ?_
  refine r_iadd d_Learner_takesBy_8 ?_
  refine r_iret .int d_Learner_takesBy_9 rfl rfl ?_
  exact ⟨rfl, rfl⟩
set_option maxHeartbeats 400000 in
theorem c_Learner_feeling {c p : Nat} (hc : isL c) (hp : p < 36) (t : Int32) (μ : Me) : CtI m_Learner_feeling 1 [.ref c, .int (nI p), .int t] μ (feelS (μ.1 c 0) (μ.1 c 1) (μ.1 (c + 1) p) t) μ := by
  refine Ct.of (ls := [.ref c, .int (nI p), .int t]) rfl (Nat.le_of_ble_eq_true rfl) rfl (fun X => ?_)
  obtain ⟨s9, s0, s1, s2, s3⟩ := hc
  refine r_aload_n 0 d_Learner_feeling_0 rfl rfl ?_
  refine r_getI fl_Learner_9 (by first | with_reducible assumption | rfl) rfl d_Learner_feeling_1 ?_
  refine r_iconst 3 d_Learner_feeling_4 rfl ?_
  refine r_icmp_ne d_Learner_feeling_5 (fun h5 => ?_) (fun h5 => ?_)
  · refine r_aload_n 0 d_Learner_feeling_29 rfl rfl ?_
    refine r_getI fl_Learner_9 (by first | with_reducible assumption | rfl) rfl d_Learner_feeling_30 ?_
    refine r_iconst 4 d_Learner_feeling_33 rfl ?_
    refine r_icmp_ne d_Learner_feeling_34 (fun h34 => ?_) (fun h34 => ?_)
    · refine r_aload_n 0 d_Learner_feeling_54 rfl rfl ?_
      refine r_getR fl_Learner_18 (by first | with_reducible assumption | rfl) rfl d_Learner_feeling_55 ?_
      refine r_iload_n 1 d_Learner_feeling_58 rfl rfl ?_
      refine r_ialdN (by first | with_reducible assumption | rfl) (by first | with_reducible assumption | omega | decide | assumption) d_Learner_feeling_59 ?_
      refine r_iret .int d_Learner_feeling_60 rfl rfl ?_
      exact ⟨by grind [feelS], rfl⟩
    · refine r_bipush (100) d_Learner_feeling_37 (by decide) ?_
      refine r_aload_n 0 d_Learner_feeling_39 rfl rfl ?_
      refine r_getR fl_Learner_18 (by first | with_reducible assumption | rfl) rfl d_Learner_feeling_40 ?_
      refine r_iload_n 1 d_Learner_feeling_43 rfl rfl ?_
      refine r_ialdN (by first | with_reducible assumption | rfl) (by first | with_reducible assumption | omega | decide | assumption) d_Learner_feeling_44 ?_
      refine r_aload_n 0 d_Learner_feeling_45 rfl rfl ?_
      refine r_getI fl_Learner_15 (by first | with_reducible assumption | rfl) rfl d_Learner_feeling_46 ?_
      refine r_iadd d_Learner_feeling_49 ?_
      refine r_min mm_Learner_44 d_Learner_feeling_50 (Nat.le_of_ble_eq_true rfl) (by decide) ?_
      refine r_iret .int d_Learner_feeling_53 rfl rfl ?_
      exact ⟨by grind [feelS], rfl⟩
  · refine r_iload_n 2 d_Learner_feeling_8 rfl rfl ?_
    refine r_iconst 3 d_Learner_feeling_9 rfl ?_
    refine r_icmp_ge d_Learner_feeling_10 (fun h10 => ?_) (fun h10 => ?_)
    · refine r_aload_n 0 d_Learner_feeling_29 rfl rfl ?_
      refine r_getI fl_Learner_9 (by first | with_reducible assumption | rfl) rfl d_Learner_feeling_30 ?_
      refine r_iconst 4 d_Learner_feeling_33 rfl ?_
      refine r_icmp_ne d_Learner_feeling_34 (fun h34 => ?_) (fun h34 => ?_)
      · refine r_aload_n 0 d_Learner_feeling_54 rfl rfl ?_
        refine r_getR fl_Learner_18 (by first | with_reducible assumption | rfl) rfl d_Learner_feeling_55 ?_
        refine r_iload_n 1 d_Learner_feeling_58 rfl rfl ?_
        refine r_ialdN (by first | with_reducible assumption | rfl) (by first | with_reducible assumption | omega | decide | assumption) d_Learner_feeling_59 ?_
        refine r_iret .int d_Learner_feeling_60 rfl rfl ?_
        exact ⟨by grind [feelS], rfl⟩
      · refine r_bipush (100) d_Learner_feeling_37 (by decide) ?_
        refine r_aload_n 0 d_Learner_feeling_39 rfl rfl ?_
        refine r_getR fl_Learner_18 (by first | with_reducible assumption | rfl) rfl d_Learner_feeling_40 ?_
        refine r_iload_n 1 d_Learner_feeling_43 rfl rfl ?_
        refine r_ialdN (by first | with_reducible assumption | rfl) (by first | with_reducible assumption | omega | decide | assumption) d_Learner_feeling_44 ?_
        refine r_aload_n 0 d_Learner_feeling_45 rfl rfl ?_
        refine r_getI fl_Learner_15 (by first | with_reducible assumption | rfl) rfl d_Learner_feeling_46 ?_
        refine r_iadd d_Learner_feeling_49 ?_
        refine r_min mm_Learner_44 d_Learner_feeling_50 (Nat.le_of_ble_eq_true rfl) (by decide) ?_
        refine r_iret .int d_Learner_feeling_53 rfl rfl ?_
        exact ⟨by grind [feelS], rfl⟩
    · refine r_iconst 0 d_Learner_feeling_13 rfl ?_
      refine r_aload_n 0 d_Learner_feeling_14 rfl rfl ?_
      refine r_getR fl_Learner_18 (by first | with_reducible assumption | rfl) rfl d_Learner_feeling_15 ?_
      refine r_iload_n 1 d_Learner_feeling_18 rfl rfl ?_
      refine r_ialdN (by first | with_reducible assumption | rfl) (by first | with_reducible assumption | omega | decide | assumption) d_Learner_feeling_19 ?_
      refine r_aload_n 0 d_Learner_feeling_20 rfl rfl ?_
      refine r_getI fl_Learner_15 (by first | with_reducible assumption | rfl) rfl d_Learner_feeling_21 ?_
      refine r_isub d_Learner_feeling_24 ?_
      refine r_max mm_Learner_38 d_Learner_feeling_25 (Nat.le_of_ble_eq_true rfl) (by decide) ?_
      refine r_iret .int d_Learner_feeling_28 rfl rfl ?_
      exact ⟨by grind [feelS], rfl⟩
set_option maxHeartbeats 400000 in
theorem c_Learner_takes {c p : Nat} (hc : isL c) (hp : p < 36) (t : Int32) (μ : Me) : CtI m_Learner_takes 2 [.ref c, .int (nI p), .int t] μ (takesS (feelS (μ.1 c 0) (μ.1 c 1) (μ.1 (c + 1) p) t)) μ := by
  refine Ct.of (ls := [.ref c, .int (nI p), .int t]) rfl (Nat.le_of_ble_eq_true rfl) rfl (fun X => ?_)
  obtain ⟨s9, s0, s1, s2, s3⟩ := id hc
  refine r_aload_n 0 d_Learner_takes_0 rfl rfl ?_
  refine r_iload_n 1 d_Learner_takes_1 rfl rfl ?_
  refine r_iload_n 2 d_Learner_takes_2 rfl rfl ?_
  refine r_callVi (c_Learner_feeling hc hp _ _) lk_Learner_47 (by first | with_reducible assumption | rfl) d_Learner_takes_3 rfl rfl (Nat.le_of_ble_eq_true rfl) (by decide) ?_
  refine r_callSi (c_Learner_takesBy _ _) lk_Learner_50 d_Learner_takes_6 rfl rfl (Nat.le_of_ble_eq_true rfl) (by decide) ?_
  refine r_iret .int d_Learner_takes_9 rfl rfl ?_
  exact ⟨rfl, rfl⟩
def onceS (k a f t g : Int32) : Prop := ¬ feelS k a f t < g ∧ ¬ t < takesS (feelS k a f t)
def onceB (k a f t g : Int32) : Int32 := if feelS k a f t < g then 0 else if t < takesS (feelS k a f t) then 0 else 1
set_option maxHeartbeats 400000 in
theorem c_Learner_isAtOnce {c p : Nat} (hc : isL c) (hp : p < 36) (t g : Int32) (μ : Me) : CtI m_Learner_isAtOnce 2 [.ref c, .int (nI p), .int t, .int g] μ (onceB (μ.1 c 0) (μ.1 c 1) (μ.1 (c + 1) p) t g) μ := by
  refine Ct.of (ls := [.ref c, .int (nI p), .int t, .int g, flr]) rfl (Nat.le_of_ble_eq_true rfl) rfl (fun X => ?_)
  obtain ⟨s9, s0, s1, s2, s3⟩ := id hc
  refine r_aload_n 0 d_Learner_isAtOnce_0 rfl rfl ?_
  refine r_iload_n 1 d_Learner_isAtOnce_1 rfl rfl ?_
  refine r_iload_n 2 d_Learner_isAtOnce_2 rfl rfl ?_
  refine r_callVi (c_Learner_feeling hc hp _ _) lk_Learner_47 (by first | with_reducible assumption | rfl) d_Learner_isAtOnce_3 rfl rfl (Nat.le_of_ble_eq_true rfl) (by decide) ?_
  refine r_istore 4 [_, _, _, _, _] d_Learner_isAtOnce_6 (by decide) rfl ?_
  refine r_iload 4 d_Learner_isAtOnce_8 rfl ?_
  refine r_iload_n 3 d_Learner_isAtOnce_10 rfl rfl ?_
  refine r_icmp_lt d_Learner_isAtOnce_11 (fun h11 => ?_) (fun h11 => ?_)
  · refine r_iconst 0 d_Learner_isAtOnce_27 rfl ?_
    refine r_iret .boolean d_Learner_isAtOnce_28 rfl (by first | decide | assumption) ?_
    exact ⟨by grind [onceB], rfl⟩
  · refine r_iload 4 d_Learner_isAtOnce_14 rfl ?_
    refine r_callSi (c_Learner_takesBy _ _) lk_Learner_50 d_Learner_isAtOnce_16 rfl rfl (Nat.le_of_ble_eq_true rfl) (by decide) ?_
    refine r_iload_n 2 d_Learner_isAtOnce_19 rfl rfl ?_
    refine r_icmp_gt d_Learner_isAtOnce_20 (fun h20 => ?_) (fun h20 => ?_)
    · refine r_iconst 0 d_Learner_isAtOnce_27 rfl ?_
      refine r_iret .boolean d_Learner_isAtOnce_28 rfl (by first | decide | assumption) ?_
      exact ⟨by grind [onceB], rfl⟩
    · refine r_iconst 1 d_Learner_isAtOnce_23 rfl ?_
      refine r_goto d_Learner_isAtOnce_24 ?_
      refine r_iret .boolean d_Learner_isAtOnce_28 rfl (by first | decide | assumption) ?_
      exact ⟨by grind [onceB], rfl⟩
set_option maxHeartbeats 400000 in
theorem c_Learner_step {c : Nat} (hc : isL c) (μ : Me) : CtI m_Learner_step 0 [.ref c] μ (stepS (μ.1 c 0)) μ := by
  refine Ct.of (ls := [.ref c]) rfl (Nat.le_of_ble_eq_true rfl) rfl (fun X => ?_)
  obtain ⟨s9, s0, s1, s2, s3⟩ := hc
  refine r_aload_n 0 d_Learner_step_0 rfl rfl ?_
  refine r_getI fl_Learner_9 (by first | with_reducible assumption | rfl) rfl d_Learner_step_1 ?_
  refine r_ts d_Learner_step_4 (List.forall_mem_cons.mpr ⟨fun h4 => ?_, List.forall_mem_cons.mpr ⟨fun h4 => ?_, List.forall_mem_cons.mpr ⟨fun h4 => ?_, List.forall_mem_cons.mpr ⟨fun h4 => ?_, fun _ h => absurd h List.not_mem_nil⟩⟩⟩⟩) (fun h4 => ?_)
  · refine r_iconst 1 d_Learner_step_39 rfl ?_
    refine r_iret .int d_Learner_step_40 rfl rfl ?_
    exact ⟨by simp_all [stepS], rfl⟩
  · refine r_bipush (-9) d_Learner_step_36 (by decide) ?_
    refine r_iret .int d_Learner_step_38 rfl rfl ?_
    exact ⟨by simp_all [stepS], rfl⟩
  · refine r_bipush (-9) d_Learner_step_36 (by decide) ?_
    refine r_iret .int d_Learner_step_38 rfl rfl ?_
    exact ⟨by simp_all [stepS], rfl⟩
  · refine r_iconst 1 d_Learner_step_39 rfl ?_
    refine r_iret .int d_Learner_step_40 rfl rfl ?_
    exact ⟨by simp_all [stepS], rfl⟩
  · refine r_iconst 2 d_Learner_step_41 rfl ?_
    refine r_iret .int d_Learner_step_42 rfl rfl ?_
    exact ⟨by simp_all [stepS], rfl⟩
set_option maxHeartbeats 400000 in
theorem c_Learner_hear {c p : Nat} (hc : isL c) (hp : p < 36) (μ : Me) : CtV m_Learner_hear 2 [.ref c, .int (nI p)] μ (uI μ (c + 1) p (toldS (μ.1 (c + 1) p))) := by
  refine Ct.of (ls := [.ref c, .int (nI p)]) rfl (Nat.le_of_ble_eq_true rfl) rfl (fun X => ?_)
  obtain ⟨s9, s0, s1, s2, s3⟩ := hc
  refine r_aload_n 0 d_Learner_hear_0 rfl rfl ?_
  refine r_getR fl_Learner_18 (by first | with_reducible assumption | rfl) rfl d_Learner_hear_1 ?_
  refine r_iload_n 1 d_Learner_hear_4 rfl rfl ?_
  refine r_aload_n 0 d_Learner_hear_5 rfl rfl ?_
  refine r_getR fl_Learner_18 (by first | with_reducible assumption | rfl) rfl d_Learner_hear_6 ?_
  refine r_iload_n 1 d_Learner_hear_9 rfl rfl ?_
  refine r_ialdN (by first | with_reducible assumption | rfl) (by first | with_reducible assumption | omega | decide | assumption) d_Learner_hear_10 ?_
  refine r_callSNi (c_S_firmWhenTold _ _) lk_Learner_53 d_Learner_hear_11 rfl rfl (Nat.le_of_ble_eq_true rfl) (by decide) ?_
  refine r_iastN (by first | with_reducible assumption | rfl) (by first | with_reducible assumption | omega | decide | assumption) d_Learner_hear_14 ?_
  refine r_ret d_Learner_hear_15 rfl ?_
  exact ⟨rfl, rfl⟩
set_option maxHeartbeats 400000 in
theorem c_S_firmBehindNights (f r g : Int32) (n : Nat) (hn : n < 2 ^ 31) (hr : ¬ (100 * (r + 1) = 0)) (μ : Me) : CtI m_S_firmBehindNights 0 [.int f, .int r, .int (nI n), .int g] μ (behS r g n f) μ := by
  refine Ct.of (ls := [.int f, .int r, .int (nI n), .int g, flr, flr]) rfl (Nat.le_of_ble_eq_true rfl) rfl (fun X => ?_)
  refine r_iload_n 0 d_S_firmBehindNights_0 rfl rfl ?_
  refine r_istore 4 [_, _, _, _, _, _] d_S_firmBehindNights_1 (by decide) rfl ?_
  refine r_iconst 0 d_S_firmBehindNights_3 rfl ?_
  refine r_istore 5 [_, _, _, _, _, _] d_S_firmBehindNights_4 (by decide) rfl ?_
  refine lpN n (fun i (w : Int32) => Wa X m_S_firmBehindNights 0 6 [.int f, .int r, .int (nI n), .int g, .int w, .int (nI i)] [] μ _) (fun i w => w = behS r g i f) ?_ 0 f (Nat.zero_le _) rfl
  intro i w hi hw hk
  refine r_iload 5 d_S_firmBehindNights_6 rfl ?_
  refine r_iload_n 2 d_S_firmBehindNights_8 rfl rfl ?_
  refine r_icmp_ge d_S_firmBehindNights_9 (fun h9 => ?_) (fun h9 => ?_)
  · refine r_iload 4 d_S_firmBehindNights_34 rfl ?_
    refine r_iret .int d_S_firmBehindNights_36 rfl rfl ?_
    have h1 := n_le h9 rfl rfl hn (by omega)
    obtain rfl : i = n := by omega
    exact ⟨by rw [hw], rfl⟩
  · refine r_iload 4 d_S_firmBehindNights_12 rfl ?_
    refine r_iload 4 d_S_firmBehindNights_14 rfl ?_
    refine r_iload_n 3 d_S_firmBehindNights_16 rfl rfl ?_
    refine r_imul d_S_firmBehindNights_17 ?_
    refine r_bipush (100) d_S_firmBehindNights_18 (by decide) ?_
    refine r_iload_n 1 d_S_firmBehindNights_20 rfl rfl ?_
    refine r_iconst 1 d_S_firmBehindNights_21 rfl ?_
    refine r_iadd d_S_firmBehindNights_22 ?_
    refine r_imul d_S_firmBehindNights_23 ?_
    refine r_idiv d_S_firmBehindNights_24 (by first | decide | assumption) ?_
    refine r_isub d_S_firmBehindNights_25 ?_
    refine r_istore 4 [_, _, _, _, _, _] d_S_firmBehindNights_26 (by decide) rfl ?_
    first | refine r_iincN 5 [_, _, _, _, _, _] d_S_firmBehindNights_28 (by decide) rfl rfl ?_ | refine r_iinc 5 [_, _, _, _, _, _] (1) d_S_firmBehindNights_28 (by decide) (by decide) rfl rfl ?_
    refine r_goto d_S_firmBehindNights_31 ?_
    exact hk _ (by have := n_lt h9 rfl rfl hn (by omega); omega) (by rw [behS_succ, hw])
set_option maxHeartbeats 400000 in
theorem c_Learner_box {c p : Nat} (hc : isL c) (hp : p < 36) (μ : Me) : CtI m_Learner_box 1 [.ref c, .int (nI p)] μ (boxS (μ.1 (c + 2) p)) μ := by
  refine Ct.of (ls := [.ref c, .int (nI p)]) rfl (Nat.le_of_ble_eq_true rfl) rfl (fun X => ?_)
  obtain ⟨s9, s0, s1, s2, s3⟩ := hc
  refine r_iconst 5 d_Learner_box_0 rfl ?_
  refine r_iconst 1 d_Learner_box_1 rfl ?_
  refine r_aload_n 0 d_Learner_box_2 rfl rfl ?_
  refine r_getR fl_Learner_22 (by first | with_reducible assumption | rfl) rfl d_Learner_box_3 ?_
  refine r_iload_n 1 d_Learner_box_6 rfl rfl ?_
  refine r_ialdN (by first | with_reducible assumption | rfl) (by first | with_reducible assumption | omega | decide | assumption) d_Learner_box_7 ?_
  refine r_iconst 2 d_Learner_box_8 rfl ?_
  refine r_idiv d_Learner_box_9 (by first | decide | assumption) ?_
  refine r_iadd d_Learner_box_10 ?_
  refine r_min mm_Learner_44 d_Learner_box_11 (Nat.le_of_ble_eq_true rfl) (by decide) ?_
  refine r_iret .int d_Learner_box_14 rfl rfl ?_
  exact ⟨rfl, rfl⟩
set_option maxHeartbeats 400000 in
theorem c_Learner_due {c p : Nat} (hc : isL c) (hp : p < 36) (μ : Me) : CtI m_Learner_due 2 [.ref c, .int (nI p)] μ (dueS (μ.1 (c + 3) p) (μ.1 (c + 2) p)) μ := by
  refine Ct.of (ls := [.ref c, .int (nI p)]) rfl (Nat.le_of_ble_eq_true rfl) rfl (fun X => ?_)
  obtain ⟨s9, s0, s1, s2, s3⟩ := id hc
  refine r_aload_n 0 d_Learner_due_0 rfl rfl ?_
  refine r_getR fl_Learner_25 (by first | with_reducible assumption | rfl) rfl d_Learner_due_1 ?_
  refine r_iload_n 1 d_Learner_due_4 rfl rfl ?_
  refine r_ialdN (by first | with_reducible assumption | rfl) (by first | with_reducible assumption | omega | decide | assumption) d_Learner_due_5 ?_
  refine r_bipush (-9) d_Learner_due_6 (by decide) ?_
  refine r_icmp_ne d_Learner_due_8 (fun h8 => ?_) (fun h8 => ?_)
  · refine r_aload_n 0 d_Learner_due_13 rfl rfl ?_
    refine r_getR fl_Learner_25 (by first | with_reducible assumption | rfl) rfl d_Learner_due_14 ?_
    refine r_iload_n 1 d_Learner_due_17 rfl rfl ?_
    refine r_ialdN (by first | with_reducible assumption | rfl) (by first | with_reducible assumption | omega | decide | assumption) d_Learner_due_18 ?_
    refine r_iconst 1 d_Learner_due_19 rfl ?_
    refine r_aload_n 0 d_Learner_due_20 rfl rfl ?_
    refine r_iload_n 1 d_Learner_due_21 rfl rfl ?_
    refine r_callVi (c_Learner_box hc hp _) lk_Learner_72 (by first | with_reducible assumption | rfl) d_Learner_due_22 rfl rfl (Nat.le_of_ble_eq_true rfl) (by decide) ?_
    refine r_iconst 1 d_Learner_due_25 rfl ?_
    refine r_isub d_Learner_due_26 ?_
    refine r_ishl d_Learner_due_27 ?_
    refine r_iadd d_Learner_due_28 ?_
    refine r_iret .int d_Learner_due_29 rfl rfl ?_
    exact ⟨by simp [dueS, h8], rfl⟩
  · refine r_iconst 0 d_Learner_due_11 rfl ?_
    refine r_iret .int d_Learner_due_12 rfl rfl ?_
    exact ⟨by simp [dueS, h8], rfl⟩
set_option maxHeartbeats 400000 in
theorem c_Learner_firmSum {c : Nat} (hc : isL c) (μ : Me) : CtI m_Learner_firmSum 0 [.ref c] μ (sumF (μ.1 (c + 1)) 36) μ := by
  refine Ct.of (ls := [.ref c, flr, flr]) rfl (Nat.le_of_ble_eq_true rfl) rfl (fun X => ?_)
  obtain ⟨s9, s0, s1, s2, s3⟩ := hc
  refine r_iconst 0 d_Learner_firmSum_0 rfl ?_
  refine r_istore_n 1 [_, _, _] d_Learner_firmSum_1 rfl (by decide) rfl ?_
  refine r_iconst 0 d_Learner_firmSum_2 rfl ?_
  refine r_istore_n 2 [_, _, _] d_Learner_firmSum_3 rfl (by decide) rfl ?_
  refine lpN 36 (fun i (w : Int32) => Wa X m_Learner_firmSum 0 4 [.ref c, .int w, .int (nI i)] [] μ _) (fun i w => w = sumF (μ.1 (c + 1)) i) ?_ 0 0 (Nat.zero_le _) rfl
  intro i w hi hw hk
  refine r_iload_n 2 d_Learner_firmSum_4 rfl rfl ?_
  refine r_bipush (36) d_Learner_firmSum_5 (by decide) ?_
  refine r_icmp_ge d_Learner_firmSum_7 (fun h7 => ?_) (fun h7 => ?_)
  · refine r_iload_n 1 d_Learner_firmSum_25 rfl rfl ?_
    refine r_iret .int d_Learner_firmSum_26 rfl rfl ?_
    have h1 := n_le (a := 36) h7 rfl rfl (by decide) (by omega)
    obtain rfl : i = 36 := by omega
    exact ⟨by rw [hw], rfl⟩
  · have hl : i < 36 := n_lt (a := 36) h7 rfl rfl (by decide) (by omega)
    refine r_iload_n 1 d_Learner_firmSum_10 rfl rfl ?_
    refine r_aload_n 0 d_Learner_firmSum_11 rfl rfl ?_
    refine r_getR fl_Learner_18 (by first | with_reducible assumption | rfl) rfl d_Learner_firmSum_12 ?_
    refine r_iload_n 2 d_Learner_firmSum_15 rfl rfl ?_
    refine r_ialdN (by first | with_reducible assumption | rfl) (by first | with_reducible assumption | omega | decide | assumption) d_Learner_firmSum_16 ?_
    refine r_iadd d_Learner_firmSum_17 ?_
    refine r_istore_n 1 [_, _, _] d_Learner_firmSum_18 rfl (by decide) rfl ?_
    first | refine r_iincN 2 [_, _, _] d_Learner_firmSum_19 (by decide) rfl rfl ?_ | refine r_iinc 2 [_, _, _] (1) d_Learner_firmSum_19 (by decide) (by decide) rfl rfl ?_
    refine r_goto d_Learner_firmSum_22 ?_
    exact hk _ hl (by rw [sumF, hw])
