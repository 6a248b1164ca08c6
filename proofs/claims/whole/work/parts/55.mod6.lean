/-! the reference: nights -/
abbrev ngB (A L P i : Nat) : Prop := A + 4 ≤ i ∧ (i - A - 4) % 110 < 108 ∧ (i - A - 4) % 110 % 3 = 0 ∧ ((i - A - 4) / 110 < L ∨ ((i - A - 4) / 110 = L ∧ (i - A - 4) % 110 < 3 * P))
theorem ng_i1 (A L P : Nat) (hP : P < 36) : (A + 4 + 110 * L + 3 * P - A - 4) / 110 = L := by
  rw [show A + 4 + 110 * L + 3 * P - A - 4 = 110 * L + 3 * P by omega, Nat.mul_add_div (by decide)]
  omega
theorem ng_i2 (A L P : Nat) (hP : P < 36) : (A + 4 + 110 * L + 3 * P - A - 4) % 110 = 3 * P := by
  rw [show A + 4 + 110 * L + 3 * P - A - 4 = 110 * L + 3 * P by omega, Nat.mul_add_mod]
  omega
theorem ngB_at {A L P L' P' : Nat} (hP : P < 36) (h : L < L' ∨ (L = L' ∧ P < P')) : ngB A L' P' (A + 4 + 110 * L + 3 * P) := by
  refine ⟨by omega, ?_⟩
  rw [ng_i1 A L P hP, ng_i2 A L P hP]
  omega
/-- the row while a night goes: the LEARNERS below L and of L the PAIRS below P are through -/
def ngF (g : Nat → Int32) (A L P : Nat) (w : Int32) : Nat → Int32 := fun i => if i = A + 1 then g i + 1 else if ngB A L P i then g i - g i * w / (100 * (g (i + 1) + 1)) else g i
theorem ng_0 {g : Nat → Int32} {A : Nat} {w : Int32} : upd g (A + 1) (g (A + 1) + 1) = ngF g A 0 0 w := by
  funext i
  by_cases h : i = A + 1
  · subst h; simp [upd, ngF]
  · rw [upd, if_neg h, ngF, if_neg h, if_neg (by unfold ngB; omega)]
theorem ng_s {g : Nat → Int32} {A L P : Nat} {w : Int32} (hP : P < 36) : upd (ngF g A L P w) (A + 4 + 110 * L + 3 * P) (fM g A L P - fM g A L P * w / (100 * (rM g A L P + 1))) = ngF g A L (P + 1) w := by
  funext i
  by_cases h : i = A + 4 + 110 * L + 3 * P
  · subst h
    rw [upd, if_pos rfl, ngF, if_neg (by omega), if_pos (ngB_at hP (Or.inr ⟨rfl, by omega⟩))]; rfl
  · rw [upd, if_neg h, ngF, ngF]
    by_cases h1 : i = A + 1
    · rw [if_pos h1, if_pos h1]
    · rw [if_neg h1, if_neg h1]
      by_cases hb : ngB A L P i
      · rw [if_pos hb, if_pos (by unfold ngB at *; omega)]
      · rw [if_neg hb, if_neg (by unfold ngB at *; omega)]
theorem ng_36 {g : Nat → Int32} {A L : Nat} {w : Int32} : ngF g A L 36 w = ngF g A (L + 1) 0 w := by
  funext i
  rw [ngF, ngF]
  by_cases h1 : i = A + 1
  · rw [if_pos h1, if_pos h1]
  · rw [if_neg h1, if_neg h1]
    by_cases hb : ngB A L 36 i
    · rw [if_pos hb, if_pos (by unfold ngB at *; omega)]
    · rw [if_neg hb, if_neg (by unfold ngB at *; omega)]
theorem ng_A {g : Nat → Int32} {A L P : Nat} {w : Int32} : ngF g A L P w A = g A := by rw [ngF, if_neg (by omega), if_neg (by unfold ngB; omega)]
theorem ng_f {g : Nat → Int32} {A L P : Nat} {w : Int32} (hP : P < 36) : fM (ngF g A L P w) A L P = fM g A L P := by rw [fM, ngF, if_neg (by omega), if_neg (by unfold ngB; omega)]; rfl
theorem ng_r {g : Nat → Int32} {A L P l p : Nat} {w : Int32} (hp : p < 36) : rM (ngF g A L P w) A l p = rM g A l p := by rw [rM, ngF, if_neg (by omega), if_neg (by unfold ngB; omega)]; rfl
theorem ng_l {g : Nat → Int32} {A L P l p : Nat} {w : Int32} (hp : p < 36) : lM (ngF g A L P w) A l p = lM g A l p := by rw [lM, ngF, if_neg (by omega), if_neg (by unfold ngB; omega)]; rfl
theorem ng_k {g : Nat → Int32} {A L P l : Nat} {w : Int32} : kM (ngF g A L P w) A l = kM g A l := by rw [kM, ngF, if_neg (by omega), if_neg (by unfold ngB; omega)]; rfl
theorem ng_a {g : Nat → Int32} {A L P l : Nat} {w : Int32} : aM (ngF g A L P w) A l = aM g A l := by rw [aM, ngF, if_neg (by omega), if_neg (by unfold ngB; omega)]; rfl
theorem ng_ff {g : Nat → Int32} {A L l p : Nat} {w : Int32} (hl : l < L) (hp : p < 36) : fM (ngF g A L 0 w) A l p = behS (rM g A l p) w 1 (fM g A l p) := by rw [fM, ngF, if_neg (by omega), if_pos (ngB_at hp (Or.inl hl))]; rfl
theorem ng_day {g : Nat → Int32} {A L P : Nat} {w : Int32} : ngF g A L P w (A + 1) = g (A + 1) + 1 := by rw [ngF, if_pos rfl]
theorem ng_lo {g : Nat → Int32} {A L P i : Nat} {w : Int32} (h : i < A) : ngF g A L P w i = g i := by rw [ngF, if_neg (by omega), if_neg (by unfold ngB; omega)]
def RtM (g : Nat → Int32) (A m : Nat) : Prop := ∀ l, l < m → ∀ p, p < 36 → ∃ r, r ≤ 9 ∧ rM g A l p = nI r
theorem RtM.ne {g : Nat → Int32} {A m : Nat} (h : RtM g A m) : ∀ l, l < m → ∀ p, p < 36 → ¬ (100 * (rM g A l p + 1) = 0) := fun l hl p hp => by
  obtain ⟨r, h1, h2⟩ := h l hl p hp
  rw [h2]
  exact r100 r h1
set_option maxHeartbeats 400000 in
theorem c_M_nightGoes {A m : Nat} (hA : A ≤ 442) (hm : m ≤ 4) (μ : Me) (hat : μ.1 82 1 = nI A) (hct : μ.1 83 A = nI m) (hR : RtM (μ.1 83) A m) : CtV m_M_nightGoes 2 [.ref 82] μ (rI μ 83 (ngF (μ.1 83) A m 0 (μ.1 84 0))) := by
  refine Ct.of (ls := [.ref 82, flr, flr, flr]) rfl (Nat.le_of_ble_eq_true rfl) rfl (fun X => ?_)
  have hat1 : ∀ f, (rI μ 83 f).1 82 1 = nI A := fun f => by rw [rI_ne (by decide), hat]
  refine r_aload_n 0 d_M_nightGoes_0 rfl rfl ?_
  refine r_getR fl_M_7 (by first | with_reducible assumption | rfl) rfl d_M_nightGoes_1 ?_
  refine r_aload_n 0 d_M_nightGoes_4 rfl rfl ?_
  refine r_getI fl_M_106 (by first | with_reducible assumption | rfl) rfl d_M_nightGoes_5 ?_
  refine r_iconst 1 d_M_nightGoes_8 rfl ?_
  refine r_iadd d_M_nightGoes_9 ?_
  rw [hat, ← nI_succ]
  refine r_dup2 d_M_nightGoes_10 rfl rfl ?_
  refine r_ialdN (by first | with_reducible assumption | rfl) (show A + 1 < 884 by omega) d_M_nightGoes_11 ?_
  refine r_iconst 1 d_M_nightGoes_12 rfl ?_
  refine r_iadd d_M_nightGoes_13 ?_
  refine r_iastN (by first | with_reducible assumption | rfl) (show A + 1 < 884 by omega) d_M_nightGoes_14 ?_
  refine r_iconst 0 d_M_nightGoes_15 rfl ?_
  refine r_istore_n 1 [_, _, _, _] d_M_nightGoes_16 rfl (by decide) rfl ?_
  rw [uI, ng_0 (w := μ.1 84 0)]
  refine lpN m (fun i (_ : Unit) => ∀ z1 z2 : Value, Wa X m_M_nightGoes 2 17 [.ref 82, .int (nI i), z1, z2] [] (rI μ 83 (ngF (μ.1 83) A i 0 (μ.1 84 0))) _) (fun _ _ => True) ?_ 0 () (Nat.zero_le _) trivial _ _
  intro i _ hi _ hk z1 z2
  refine r_iload_n 1 d_M_nightGoes_17 rfl rfl ?_
  refine r_aload_n 0 d_M_nightGoes_18 rfl rfl ?_
  refine r_getR fl_M_7 (by first | with_reducible assumption | rfl) rfl d_M_nightGoes_19 ?_
  refine r_aload_n 0 d_M_nightGoes_22 rfl rfl ?_
  refine r_getI fl_M_106 (by first | with_reducible assumption | rfl) rfl d_M_nightGoes_23 ?_
  refine r_iconst 0 d_M_nightGoes_26 rfl ?_
  refine r_iadd d_M_nightGoes_27 ?_
  rw [hat1, Int32.add_zero]
  refine r_ialdN (by first | with_reducible assumption | rfl) (show A < 884 by omega) d_M_nightGoes_28 ?_
  rw [rI_eq, ng_A, hct]
  refine r_icmp_ge d_M_nightGoes_29 (fun h29 => ?_) (fun h29 => ?_)
  · refine r_ret d_M_nightGoes_92 rfl ?_
    have hge := n_le h29 rfl rfl (by omega) (by omega)
    obtain rfl : i = m := by omega
    exact ⟨rfl, rfl⟩
  · have hli : i < m := n_lt h29 rfl rfl (by omega) (by omega)
    refine r_iconst 0 d_M_nightGoes_32 rfl ?_
    refine r_istore_n 2 [_, _, _, _] d_M_nightGoes_33 rfl (by decide) rfl ?_
    have lp := lpN 36 (fun k (_ : Unit) => ∀ z3 : Value, Wa X m_M_nightGoes 2 34 [.ref 82, .int (nI i), .int (nI k), z3] [] (rI μ 83 (ngF (μ.1 83) A i k (μ.1 84 0))) (fun r μ' => r = none ∧ μ' = rI μ 83 (ngF (μ.1 83) A m 0 (μ.1 84 0)))) (fun _ _ => True) ?_ 0 () (Nat.zero_le _) trivial
    · exact lp _
    · intro k _ hki _ hkk z3
      refine r_iload_n 2 d_M_nightGoes_34 rfl rfl ?_
      refine r_bipush (36) d_M_nightGoes_35 (by decide) ?_
      refine r_icmp_ge d_M_nightGoes_37 (fun h37 => ?_) (fun h37 => ?_)
      · have hge := n_le (a := 36) h37 rfl rfl (by decide) (by omega)
        obtain rfl : k = 36 := by omega
        rw [ng_36]
        first | refine r_iincN 1 [_, _, _, _] d_M_nightGoes_86 (by decide) rfl rfl ?_ | refine r_iinc 1 [_, _, _, _] (1) d_M_nightGoes_86 (by decide) (by decide) rfl rfl ?_
        refine r_goto d_M_nightGoes_89 ?_
        exact hk () hli trivial _ _
      · have hlk : k < 36 := n_lt (a := 36) h37 rfl rfl (by decide) (by omega)
        refine r_aload_n 0 d_M_nightGoes_40 rfl rfl ?_
        refine r_iload_n 1 d_M_nightGoes_41 rfl rfl ?_
        refine r_iload_n 2 d_M_nightGoes_42 rfl rfl ?_
        refine r_callVi (c_M_firmOf (A := A) hA (show i < 4 by omega) hlk _ (hat1 _)) lk_M_112 (by first | with_reducible assumption | rfl) d_M_nightGoes_43 rfl rfl (Nat.le_of_ble_eq_true rfl) (by decide) ?_
        rw [rI_eq, ng_f hlk]
        refine r_istore_n 3 [_, _, _, _] d_M_nightGoes_46 rfl (by decide) rfl ?_
        refine r_aload_n 0 d_M_nightGoes_47 rfl rfl ?_
        refine r_getR fl_M_7 (by first | with_reducible assumption | rfl) rfl d_M_nightGoes_48 ?_
        refine r_aload_n 0 d_M_nightGoes_51 rfl rfl ?_
        refine r_iload_n 1 d_M_nightGoes_52 rfl rfl ?_
        refine r_iload_n 2 d_M_nightGoes_53 rfl rfl ?_
        refine r_callVi (c_M_place (A := A) _ (hat1 _)) lk_M_109 (by first | with_reducible assumption | rfl) d_M_nightGoes_54 rfl rfl (Nat.le_of_ble_eq_true rfl) (by decide) ?_
        refine r_iload_n 3 d_M_nightGoes_57 rfl rfl ?_
        refine r_iload_n 3 d_M_nightGoes_58 rfl rfl ?_
        refine r_aload_n 0 d_M_nightGoes_59 rfl rfl ?_
        refine r_getR fl_M_13 (by first | with_reducible assumption | rfl) rfl d_M_nightGoes_60 ?_
        refine r_iconst 0 d_M_nightGoes_63 rfl ?_
        refine r_ialdN (j := 0) (by first | with_reducible assumption | rfl) (by first | with_reducible assumption | omega | decide | assumption) d_M_nightGoes_64 ?_
        refine r_imul d_M_nightGoes_65 ?_
        refine r_bipush (100) d_M_nightGoes_66 (by decide) ?_
        refine r_aload_n 0 d_M_nightGoes_68 rfl rfl ?_
        refine r_iload_n 1 d_M_nightGoes_69 rfl rfl ?_
        refine r_iload_n 2 d_M_nightGoes_70 rfl rfl ?_
        refine r_callVi (c_M_rightsOf (A := A) hA (show i < 4 by omega) hlk _ (hat1 _)) lk_M_127 (by first | with_reducible assumption | rfl) d_M_nightGoes_71 rfl rfl (Nat.le_of_ble_eq_true rfl) (by decide) ?_
        rw [rI_eq, ng_r hlk]
        refine r_iconst 1 d_M_nightGoes_74 rfl ?_
        refine r_iadd d_M_nightGoes_75 ?_
        refine r_imul d_M_nightGoes_76 ?_
        refine r_idiv d_M_nightGoes_77 (hR.ne i hli k hlk) ?_
        refine r_isub d_M_nightGoes_78 ?_
        refine r_iastN (by first | with_reducible assumption | rfl) (by first | with_reducible assumption | omega | decide | assumption) d_M_nightGoes_79 ?_
        rw [rI_ne (show 84 ≠ 83 by decide), uI_rI, ng_s hlk]
        first | refine r_iincN 2 [_, _, _, _] d_M_nightGoes_80 (by decide) rfl rfl ?_ | refine r_iinc 2 [_, _, _, _] (1) d_M_nightGoes_80 (by decide) (by decide) rfl rfl ?_
        refine r_goto d_M_nightGoes_83 ?_
        exact hkk () hlk trivial _
def ngN (g : Nat → Int32) (A m : Nat) (w : Int32) : Nat → Nat → Int32
  | 0 => g
  | n + 1 => ngF (ngN g A m w n) A m 0 w
theorem nN_A {g : Nat → Int32} {A m : Nat} {w : Int32} : ∀ n, ngN g A m w n A = g A
  | 0 => rfl
  | n + 1 => by rw [ngN, ng_A, nN_A n]
theorem nN_lo {g : Nat → Int32} {A m i : Nat} {w : Int32} (h : i < A) : ∀ n, ngN g A m w n i = g i
  | 0 => rfl
  | n + 1 => by rw [ngN, ng_lo h, nN_lo h n]
theorem nN_r {g : Nat → Int32} {A m l p : Nat} {w : Int32} (hp : p < 36) : ∀ n, rM (ngN g A m w n) A l p = rM g A l p
  | 0 => rfl
  | n + 1 => by rw [ngN, ng_r hp, nN_r hp n]
theorem nN_l {g : Nat → Int32} {A m l p : Nat} {w : Int32} (hp : p < 36) : ∀ n, lM (ngN g A m w n) A l p = lM g A l p
  | 0 => rfl
  | n + 1 => by rw [ngN, ng_l hp, nN_l hp n]
theorem nN_k {g : Nat → Int32} {A m l : Nat} {w : Int32} : ∀ n, kM (ngN g A m w n) A l = kM g A l
  | 0 => rfl
  | n + 1 => by rw [ngN, ng_k, nN_k n]
theorem nN_a {g : Nat → Int32} {A m l : Nat} {w : Int32} : ∀ n, aM (ngN g A m w n) A l = aM g A l
  | 0 => rfl
  | n + 1 => by rw [ngN, ng_a, nN_a n]
theorem nN_f {g : Nat → Int32} {A m l p : Nat} {w : Int32} (hl : l < m) (hp : p < 36) : ∀ n, fM (ngN g A m w n) A l p = behS (rM g A l p) w n (fM g A l p)
  | 0 => rfl
  | n + 1 => by 
    rw [ngN, ng_ff hl hp, nN_f hl hp n, nN_r hp]
    exact (behS_succ _ _ n _).symm
theorem nN_day {g : Nat → Int32} {A m : Nat} {w : Int32} : ∀ n, ngN g A m w n (A + 1) = g (A + 1) + nI n
  | 0 => by rw [ngN]; exact (Int32.add_zero _).symm
  | n + 1 => by rw [ngN, ng_day, nN_day n, nI_succ, Int32.add_assoc]
theorem RtM.ngN {g : Nat → Int32} {A m : Nat} {w : Int32} (h : RtM g A m) (n : Nat) : RtM (ngN g A m w n) A m := fun l hl p hp => by rw [nN_r hp]; exact h l hl p hp
set_option maxHeartbeats 400000 in
theorem c_M_nights_bad {n : Int32} (hP : ¬ (0 ≤ n ∧ n ≤ 30)) (μ : Me) : CtI m_M_nights 3 [.ref 82, .int n] μ (-1) μ := by
  refine Ct.of (ls := [.ref 82, .int n, flr]) rfl (Nat.le_of_ble_eq_true rfl) rfl (fun X => ?_)
  refine r_iload_n 1 d_M_nights_0 rfl rfl ?_
  refine r_iconst 0 d_M_nights_1 rfl ?_
  refine r_bipush (30) d_M_nights_2 (by decide) ?_
  refine r_callSi (c_M_in _ _ _ _) lk_M_72 d_M_nights_4 rfl rfl (Nat.le_of_ble_eq_true rfl) (by decide) ?_
  refine r_if_ne d_M_nights_7 (fun h7 => absurd (bzn hP) h7) (fun h7 => ?_)
  refine r_iconst (-1) d_M_nights_10 rfl ?_
  refine r_iret .int d_M_nights_11 rfl rfl ?_
  exact ⟨rfl, rfl⟩
set_option maxHeartbeats 400000 in
theorem c_M_nights {m n : Nat} (hm : m ≤ 4) (hn : n ≤ 30) (μ : Me) (hat : μ.1 82 1 = nI 0) (hct : μ.1 83 0 = nI m) (hR : RtM (μ.1 83) 0 m) : CtI m_M_nights 3 [.ref 82, .int (nI n)] μ (μ.1 83 1 + nI n) (rI μ 83 (ngN (μ.1 83) 0 m (μ.1 84 0) n)) := by
  refine Ct.of (ls := [.ref 82, .int (nI n), flr]) rfl (Nat.le_of_ble_eq_true rfl) rfl (fun X => ?_)
  refine r_iload_n 1 d_M_nights_0 rfl rfl ?_
  refine r_iconst 0 d_M_nights_1 rfl ?_
  refine r_bipush (30) d_M_nights_2 (by decide) ?_
  refine r_callSi (c_M_in _ _ _ _) lk_M_72 d_M_nights_4 rfl rfl (Nat.le_of_ble_eq_true rfl) (by decide) ?_
  refine r_if_ne d_M_nights_7 (fun h7 => ?_) (fun h7 => absurd h7 (bzy ⟨nI_pos' (by omega), nI_le (b := 30) hn (by decide)⟩))
  refine r_iconst 0 d_M_nights_12 rfl ?_
  refine r_istore_n 2 [_, _, _] d_M_nights_13 rfl (by decide) rfl ?_
  refine lpN n (fun i (μ1 : Me) => Wa X m_M_nights 3 14 [.ref 82, .int (nI n), .int (nI i)] [] μ1 _) (fun i μ1 => μ1 = rI μ 83 (ngN (μ.1 83) 0 m (μ.1 84 0) i)) ?_ 0 μ (Nat.zero_le _) (by rw [ngN, rI_self])
  intro i μ1 hi hw hk
  subst hw
  refine r_iload_n 2 d_M_nights_14 rfl rfl ?_
  refine r_iload_n 1 d_M_nights_15 rfl rfl ?_
  refine r_icmp_ge d_M_nights_16 (fun h16 => ?_) (fun h16 => ?_)
  · have hge := n_le h16 rfl rfl (by omega) (by omega)
    obtain rfl : i = n := by omega
    refine r_aload_n 0 d_M_nights_29 rfl rfl ?_
    refine r_getR fl_M_7 (by first | with_reducible assumption | rfl) rfl d_M_nights_30 ?_
    refine r_iconst 1 d_M_nights_33 rfl ?_
    refine r_ialdN (j := 1) (by first | with_reducible assumption | rfl) (by first | with_reducible assumption | omega | decide | assumption) d_M_nights_34 ?_
    refine r_iret .int d_M_nights_35 rfl rfl ?_
    exact ⟨by rw [rI_eq, show (1 : Nat) = 0 + 1 from rfl, nN_day], rfl⟩
  · have hli : i < n := n_lt h16 rfl rfl (by omega) (by omega)
    refine r_aload_n 0 d_M_nights_19 rfl rfl ?_
    refine r_callVv (c_M_nightGoes (A := 0) (m := m) (by decide) hm _ (by rw [rI_ne (by decide)]; exact hat) (by rw [rI_eq, nN_A]; exact hct) (by rw [rI_eq]; exact hR.ngN _)) lk_M_190 (by first | with_reducible assumption | rfl) d_M_nights_20 rfl rfl (Nat.le_of_ble_eq_true rfl) (by decide) ?_
    first | refine r_iincN 2 [_, _, _] d_M_nights_23 (by decide) rfl rfl ?_ | refine r_iinc 2 [_, _, _] (1) d_M_nights_23 (by decide) (by decide) rfl rfl ?_
    refine r_goto d_M_nights_26 ?_
    refine hk _ hli ?_
    rw [rI_eq, rI_rI, rI_ne (by decide), ngN]
set_option maxHeartbeats 400000 in
theorem c_M_card_no {m : Nat} (hm : m ≤ 4) (l : Int32) (μ : Me) (hct : μ.1 83 0 = nI m) (hG : ¬ (0 ≤ l ∧ l < nI m)) : CtI m_M_card 4 [.ref 82, .int l] μ (-1) μ := by
  refine Ct.of (ls := [.ref 82, .int l, flr, flr]) rfl (Nat.le_of_ble_eq_true rfl) rfl (fun X => ?_)
  refine r_aload_n 0 d_M_card_0 rfl rfl ?_
  refine r_iload_n 1 d_M_card_1 rfl rfl ?_
  refine r_callVi (c_M_isLearner hm _ _ hct) lk_M_115 (by first | with_reducible assumption | rfl) d_M_card_2 rfl rfl (Nat.le_of_ble_eq_true rfl) (by decide) ?_
  refine r_if_ne d_M_card_5 (fun h5 => absurd (bzn hG) h5) (fun h5 => ?_)
  refine r_iconst (-1) d_M_card_8 rfl ?_
  refine r_iret .int d_M_card_9 rfl rfl ?_
  exact ⟨rfl, rfl⟩
set_option maxHeartbeats 400000 in
theorem c_M_card {m j : Nat} (hm : m ≤ 4) (hj : j < m) (μ : Me) (hct : μ.1 83 0 = nI m) (hat : μ.1 82 1 = nI 0) (hlt : ∀ p, p < 36 → lM (μ.1 83) 0 j p = -9 ∨ 0 ≤ lM (μ.1 83) 0 j p) : CtI m_M_card 4 [.ref 82, .int (nI j)] μ (cardS (dueF (rM (μ.1 83) 0 j) (lM (μ.1 83) 0 j)) (μ.1 83 1)) μ := by
  refine Ct.of (ls := [.ref 82, .int (nI j), flr, flr]) rfl (Nat.le_of_ble_eq_true rfl) rfl (fun X => ?_)
  refine r_aload_n 0 d_M_card_0 rfl rfl ?_
  refine r_iload_n 1 d_M_card_1 rfl rfl ?_
  refine r_callVi (c_M_isLearner hm _ _ hct) lk_M_115 (by first | with_reducible assumption | rfl) d_M_card_2 rfl rfl (Nat.le_of_ble_eq_true rfl) (by decide) ?_
  refine r_if_ne d_M_card_5 (fun h5 => ?_) (fun h5 => absurd h5 (bzy (nIb hj hm)))
  refine r_iconst 0 d_M_card_10 rfl ?_
  refine r_istore_n 2 [_, _, _, _] d_M_card_11 rfl (by decide) rfl ?_
  refine r_iconst 1 d_M_card_12 rfl ?_
  refine r_istore_n 3 [_, _, _, _] d_M_card_13 rfl (by decide) rfl ?_
  refine lpN 35 (fun i (w : Nat) => Wa X m_M_card 4 14 [.ref 82, .int (nI j), .int (nI w), .int (nI (i + 1))] [] μ _) (fun i w => w = cardF (dueF (rM (μ.1 83) 0 j) (lM (μ.1 83) 0 j)) i) ?_ 0 0 (Nat.zero_le _) rfl
  intro i w hi hw hk
  have hw35 : w ≤ i := by rw [hw]; exact cardF_le _ _
  refine r_iload_n 3 d_M_card_14 rfl rfl ?_
  refine r_bipush (36) d_M_card_15 (by decide) ?_
  refine r_icmp_ge d_M_card_17 (fun h17 => ?_) (fun h17 => ?_)
  · have hge := n_le (a := 36) h17 rfl rfl (by decide) (by omega)
    obtain rfl : i = 35 := by omega
    refine r_aload_n 0 d_M_card_47 rfl rfl ?_
    refine r_iload_n 1 d_M_card_48 rfl rfl ?_
    refine r_iload_n 2 d_M_card_49 rfl rfl ?_
    refine r_callVi (c_M_dueOf (A := 0) (by decide) (show j < 4 by omega) (show w < 36 by omega) _ hat (hlt _ (by omega))) lk_M_136 (by first | with_reducible assumption | rfl) d_M_card_50 rfl rfl (Nat.le_of_ble_eq_true rfl) (by decide) ?_
    refine r_aload_n 0 d_M_card_53 rfl rfl ?_
    refine r_getR fl_M_7 (by first | with_reducible assumption | rfl) rfl d_M_card_54 ?_
    refine r_iconst 1 d_M_card_57 rfl ?_
    refine r_ialdN (j := 1) (by first | with_reducible assumption | rfl) (by first | with_reducible assumption | omega | decide | assumption) d_M_card_58 ?_
    refine r_icmp_le d_M_card_59 (fun h59 => ?_) (fun h59 => ?_)
    · refine r_iload_n 2 d_M_card_67 rfl rfl ?_
      refine r_iret .int d_M_card_68 rfl rfl ?_
      refine ⟨?_, rfl⟩
      rw [cardS, ← hw]
      first
        | rw [if_neg (show ¬ μ.1 83 1 < dueF (rM (μ.1 83) 0 j) (lM (μ.1 83) 0 j) w from Int32.not_lt.mpr h59)]
        | rw [if_pos (show μ.1 83 1 < dueF (rM (μ.1 83) 0 j) (lM (μ.1 83) 0 j) w from Int32.not_le.mp h59)]
    · refine r_bipush (-3) d_M_card_62 (by decide) ?_
      refine r_goto d_M_card_64 ?_
      refine r_iret .int d_M_card_68 rfl rfl ?_
      refine ⟨?_, rfl⟩
      rw [cardS, ← hw]
      first
        | rw [if_neg (show ¬ μ.1 83 1 < dueF (rM (μ.1 83) 0 j) (lM (μ.1 83) 0 j) w from Int32.not_lt.mpr h59)]
        | rw [if_pos (show μ.1 83 1 < dueF (rM (μ.1 83) 0 j) (lM (μ.1 83) 0 j) w from Int32.not_le.mp h59)]
  · have hli : i + 1 < 36 := n_lt (a := 36) h17 rfl rfl (by decide) (by omega)
    refine r_aload_n 0 d_M_card_20 rfl rfl ?_
    refine r_iload_n 1 d_M_card_21 rfl rfl ?_
    refine r_iload_n 3 d_M_card_22 rfl rfl ?_
    refine r_callVi (c_M_dueOf (A := 0) (by decide) (show j < 4 by omega) hli _ hat (hlt _ hli)) lk_M_136 (by first | with_reducible assumption | rfl) d_M_card_23 rfl rfl (Nat.le_of_ble_eq_true rfl) (by decide) ?_
    refine r_aload_n 0 d_M_card_26 rfl rfl ?_
    refine r_iload_n 1 d_M_card_27 rfl rfl ?_
    refine r_iload_n 2 d_M_card_28 rfl rfl ?_
    refine r_callVi (c_M_dueOf (A := 0) (by decide) (show j < 4 by omega) (show w < 36 by omega) _ hat (hlt _ (by omega))) lk_M_136 (by first | with_reducible assumption | rfl) d_M_card_29 rfl rfl (Nat.le_of_ble_eq_true rfl) (by decide) ?_
    refine r_icmp_ge d_M_card_32 (fun h32 => ?_) (fun h32 => ?_)
    · refine r_iload_n 2 d_M_card_39 rfl rfl ?_
      refine r_istore_n 2 [_, _, _, _] d_M_card_40 rfl (by decide) rfl ?_
      first | refine r_iincN 3 [_, _, _, _] d_M_card_41 (by decide) rfl rfl ?_ | refine r_iinc 3 [_, _, _, _] (1) d_M_card_41 (by decide) (by decide) rfl rfl ?_
      refine r_goto d_M_card_44 ?_
      refine hk _ (by omega) ?_
      rw [cardF, ← hw]
      first
        | exact (if_neg (Int32.not_lt.mpr h32)).symm
        | exact (if_pos (Int32.not_le.mp h32)).symm
    · refine r_iload_n 3 d_M_card_35 rfl rfl ?_
      refine r_goto d_M_card_36 ?_
      refine r_istore_n 2 [_, _, _, _] d_M_card_40 rfl (by decide) rfl ?_
      first | refine r_iincN 3 [_, _, _, _] d_M_card_41 (by decide) rfl rfl ?_ | refine r_iinc 3 [_, _, _, _] (1) d_M_card_41 (by decide) (by decide) rfl rfl ?_
      refine r_goto d_M_card_44 ?_
      refine hk _ (by omega) ?_
      rw [cardF, ← hw]
      first
        | exact (if_neg (Int32.not_lt.mpr h32)).symm
        | exact (if_pos (Int32.not_le.mp h32)).symm
theorem find_known {k a : Int32} {f : Nat → Int32} {p : Nat} {t g s : Int32} : ((findS k a f p t g s).2.1 = 0 ∨ (findS k a f p t g s).2.1 = 1) ↔ (¬ onceB k a (f p) t g = 0 ∨ 0 ≤ wayS k a f p t g) := by
  unfold findS
  split
  · rename_i h; exact ⟨fun _ => Or.inl h, fun _ => Or.inl rfl⟩
  · rename_i h
    split
    · rename_i h2; exact ⟨fun _ => Or.inr h2, fun _ => Or.inr rfl⟩
    · rename_i h2
      split
      · exact ⟨fun z => z.elim (fun y => absurd (show (2 : Int32) = 0 from y) (by decide)) (fun y => absurd (show (2 : Int32) = 1 from y) (by decide)), fun z => z.elim (fun y => absurd y h) (fun y => absurd y h2)⟩
      · exact ⟨fun z => z.elim (fun y => absurd (show (3 : Int32) = 0 from y) (by decide)) (fun y => absurd (show (3 : Int32) = 1 from y) (by decide)), fun z => z.elim (fun y => absurd y h) (fun y => absurd y h2)⟩
def kb (g : Nat → Int32) (A l : Nat) (t : Int32) (w : Nat → Int32) : Nat → Bool := knB (kM g A l) (aM g A l) (fM g A l) t (w 1) (w 2)
set_option maxHeartbeats 400000 in
theorem c_M_isKnown {A l p : Nat} (hA : A ≤ 442) (hl : l < 4) (hp : p < 36) (t : Int32) (ht : 1 ≤ t ∧ t ≤ 9) (μ : Me) (hat : μ.1 82 1 = nI A) (hO : LO (μ.1 83) A l) : CtI m_M_isKnown 5 [.ref 82, .int (nI l), .int (nI p), .int t] μ (bz (kb (μ.1 83) A l t (μ.1 84) p = true)) μ := by
  refine Ct.of (ls := [.ref 82, .int (nI l), .int (nI p), .int t]) rfl (Nat.le_of_ble_eq_true rfl) rfl (fun X => ?_)
  have key : kb (μ.1 83) A l t (μ.1 84) p = true ↔ (¬ onceB (kM (μ.1 83) A l) (aM (μ.1 83) A l) (fM (μ.1 83) A l p) t (μ.1 84 1) = 0 ∨ 0 ≤ wayS (kM (μ.1 83) A l) (aM (μ.1 83) A l) (fM (μ.1 83) A l) p t (μ.1 84 1)) := by
    rw [kb, knB, decide_eq_true_eq]
    exact find_known
  rw [bz_congr key]
  refine r_aload_n 0 d_M_isKnown_0 rfl rfl ?_
  refine r_iload_n 1 d_M_isKnown_1 rfl rfl ?_
  refine r_iload_n 2 d_M_isKnown_2 rfl rfl ?_
  refine r_iload_n 3 d_M_isKnown_3 rfl rfl ?_
  refine r_callVi (c_M_isAtOnce hA hl hp t _ hat hO) lk_M_155 (by first | with_reducible assumption | rfl) d_M_isKnown_4 rfl rfl (Nat.le_of_ble_eq_true rfl) (by decide) ?_
  refine r_if_ne d_M_isKnown_7 (fun h7 => ?_) (fun h7 => ?_)
  · refine r_iconst 1 d_M_isKnown_20 rfl ?_
    refine r_goto d_M_isKnown_21 ?_
    refine r_iret .boolean d_M_isKnown_25 rfl (by first | decide | assumption) ?_
    refine ⟨?_, rfl⟩
    first
      | (have z7 := h7; have z17 : _ < (0 : Int32) := h17; rw [← bz_f (fun y => y.elim (fun x => x z7) (fun x => absurd z17 (Int32.not_lt.mpr (w3_ge.mpr x))))])
      | (have z7 : ¬ _ = (0 : Int32) := h7; rw [← bz_t (Or.inl z7)])
      | (have z17 : ¬ _ < (0 : Int32) := h17; rw [← bz_t (Or.inr (w3_ge.mp (Int32.not_lt.mp z17)))])
  · refine r_aload_n 0 d_M_isKnown_10 rfl rfl ?_
    refine r_iload_n 1 d_M_isKnown_11 rfl rfl ?_
    refine r_iload_n 2 d_M_isKnown_12 rfl rfl ?_
    refine r_iload_n 3 d_M_isKnown_13 rfl rfl ?_
    refine r_callVi (c_M_wayFrom hA hl hp t ht _ hat hO) lk_M_167 (by first | with_reducible assumption | rfl) d_M_isKnown_14 rfl rfl (Nat.le_of_ble_eq_true rfl) (by decide) ?_
    refine r_if_lt d_M_isKnown_17 (fun h17 => ?_) (fun h17 => ?_)
    · refine r_iconst 0 d_M_isKnown_24 rfl ?_
      refine r_iret .boolean d_M_isKnown_25 rfl (by first | decide | assumption) ?_
      refine ⟨?_, rfl⟩
      first
        | (have z7 := h7; have z17 : _ < (0 : Int32) := h17; rw [← bz_f (fun y => y.elim (fun x => x z7) (fun x => absurd z17 (Int32.not_lt.mpr (w3_ge.mpr x))))])
        | (have z7 : ¬ _ = (0 : Int32) := h7; rw [← bz_t (Or.inl z7)])
        | (have z17 : ¬ _ < (0 : Int32) := h17; rw [← bz_t (Or.inr (w3_ge.mp (Int32.not_lt.mp z17)))])
    · refine r_iconst 1 d_M_isKnown_20 rfl ?_
      refine r_goto d_M_isKnown_21 ?_
      refine r_iret .boolean d_M_isKnown_25 rfl (by first | decide | assumption) ?_
      refine ⟨?_, rfl⟩
      first
        | (have z7 := h7; have z17 : _ < (0 : Int32) := h17; rw [← bz_f (fun y => y.elim (fun x => x z7) (fun x => absurd z17 (Int32.not_lt.mpr (w3_ge.mpr x))))])
        | (have z7 : ¬ _ = (0 : Int32) := h7; rw [← bz_t (Or.inl z7)])
        | (have z17 : ¬ _ < (0 : Int32) := h17; rw [← bz_t (Or.inr (w3_ge.mp (Int32.not_lt.mp z17)))])
set_option maxHeartbeats 400000 in
theorem c_M_knownSet {A l : Nat} (hA : A ≤ 442) (hl : l < 4) (t : Int32) (ht : 1 ≤ t ∧ t ≤ 9) (μ : Me) (hat : μ.1 82 1 = nI A) (hO : LO (μ.1 83) A l) : CtL m_M_knownSet 6 [.ref 82, .int (nI l), .int t] μ (knF (kb (μ.1 83) A l t (μ.1 84)) 36) μ := by
  refine Ct.of (ls := [.ref 82, .int (nI l), .int t, flr, flr, flr]) rfl (Nat.le_of_ble_eq_true rfl) rfl (fun X => ?_)
  refine r_lconst 0 d_M_knownSet_0 rfl ?_
  refine r_lstore_n 3 [_, _, _, _, _, _] d_M_knownSet_1 rfl (by decide) rfl ?_
  refine r_iconst 0 d_M_knownSet_2 rfl ?_
  refine r_istore 5 [_, _, _, _, _, _] d_M_knownSet_3 (by decide) rfl ?_
  refine lpN 36 (fun i (w : Int64) => Wa X m_M_knownSet 6 5 [.ref 82, .int (nI l), .int t, .long w, flr, .int (nI i)] [] μ _) (fun i w => w = knF (kb (μ.1 83) A l t (μ.1 84)) i) ?_ 0 0 (Nat.zero_le _) rfl
  intro i w hi hw hk
  refine r_iload 5 d_M_knownSet_5 rfl ?_
  refine r_bipush (36) d_M_knownSet_7 (by decide) ?_
  refine r_icmp_ge d_M_knownSet_9 (fun h9 => ?_) (fun h9 => ?_)
  · refine r_lload_n 3 d_M_knownSet_40 rfl rfl ?_
    refine r_lret d_M_knownSet_41 rfl ?_
    have hge := n_le (a := 36) h9 rfl rfl (by decide) (by omega)
    obtain rfl : i = 36 := by omega
    exact ⟨by rw [hw], rfl⟩
  · have hli : i < 36 := n_lt (a := 36) h9 rfl rfl (by decide) (by omega)
    refine r_lload_n 3 d_M_knownSet_12 rfl rfl ?_
    refine r_aload_n 0 d_M_knownSet_13 rfl rfl ?_
    refine r_iload_n 1 d_M_knownSet_14 rfl rfl ?_
    refine r_iload 5 d_M_knownSet_15 rfl ?_
    refine r_iload_n 2 d_M_knownSet_17 rfl rfl ?_
    refine r_callVi (c_M_isKnown hA hl hli t ht _ hat hO) lk_M_193 (by first | with_reducible assumption | rfl) d_M_knownSet_18 rfl rfl (Nat.le_of_ble_eq_true rfl) (by decide) ?_
    refine r_if_eq d_M_knownSet_21 (fun h21 => ?_) (fun h21 => ?_)
    · refine r_lconst 0 d_M_knownSet_31 rfl ?_
      refine r_lor d_M_knownSet_32 ?_
      refine r_lstore_n 3 [_, _, _, _, _, _] d_M_knownSet_33 rfl (by decide) rfl ?_
      first | refine r_iincN 5 [_, _, _, _, _, _] d_M_knownSet_34 (by decide) rfl rfl ?_ | refine r_iinc 5 [_, _, _, _, _, _] (1) d_M_knownSet_34 (by decide) (by decide) rfl rfl ?_
      refine r_goto d_M_knownSet_37 ?_
      refine hk _ hli ?_
      rw [knF, hw]
      first
        | (rw [if_neg (bz_np h21)]; exact Int64.or_zero)
        | exact (if_pos (bz_p h21)).symm
    · refine r_lconst 1 d_M_knownSet_24 rfl ?_
      refine r_iload 5 d_M_knownSet_25 rfl ?_
      refine r_lshl d_M_knownSet_27 ?_
      refine r_goto d_M_knownSet_28 ?_
      refine r_lor d_M_knownSet_32 ?_
      refine r_lstore_n 3 [_, _, _, _, _, _] d_M_knownSet_33 rfl (by decide) rfl ?_
      first | refine r_iincN 5 [_, _, _, _, _, _] d_M_knownSet_34 (by decide) rfl rfl ?_ | refine r_iinc 5 [_, _, _, _, _, _] (1) d_M_knownSet_34 (by decide) (by decide) rfl rfl ?_
      refine r_goto d_M_knownSet_37 ?_
      refine hk _ hli ?_
      rw [knF, hw]
      first
        | (rw [if_neg (bz_np h21)]; exact Int64.or_zero)
        | exact (if_pos (bz_p h21)).symm
set_option maxHeartbeats 400000 in
theorem c_M_known_no {m : Nat} (hm : m ≤ 4) (l t : Int32) (μ : Me) (hct : μ.1 83 0 = nI m) (hG : ¬ ((0 ≤ l ∧ l < nI m) ∧ 1 ≤ t ∧ t ≤ 9)) : CtL m_M_known 7 [.ref 82, .int l, .int t] μ (-1) μ := by
  refine Ct.of (ls := [.ref 82, .int l, .int t]) rfl (Nat.le_of_ble_eq_true rfl) rfl (fun X => ?_)
  refine r_aload_n 0 d_M_known_0 rfl rfl ?_
  refine r_iload_n 1 d_M_known_1 rfl rfl ?_
  refine r_callVi (c_M_isLearner hm _ _ hct) lk_M_115 (by first | with_reducible assumption | rfl) d_M_known_2 rfl rfl (Nat.le_of_ble_eq_true rfl) (by decide) ?_
  refine r_if_eq d_M_known_5 (fun h5 => ?_) (fun h5 => ?_)
  · refine r_ldc2 kc_M_104 d_M_known_24 ?_
    refine r_lret d_M_known_27 rfl ?_
    exact ⟨rfl, rfl⟩
  · refine r_iload_n 2 d_M_known_8 rfl rfl ?_
    refine r_callSi (c_M_isTime _ _) lk_M_142 d_M_known_9 rfl rfl (Nat.le_of_ble_eq_true rfl) (by decide) ?_
    refine r_if_eq d_M_known_12 (fun h12 => ?_) (fun h12 => ?_)
    · refine r_ldc2 kc_M_104 d_M_known_24 ?_
      refine r_lret d_M_known_27 rfl ?_
      exact ⟨rfl, rfl⟩
    · exact absurd ⟨bz_p h5, bz_p h12⟩ hG
set_option maxHeartbeats 400000 in
theorem c_M_known {m j : Nat} (hm : m ≤ 4) (hj : j < m) (t : Int32) (ht : 1 ≤ t ∧ t ≤ 9) (μ : Me) (hct : μ.1 83 0 = nI m) (hat : μ.1 82 1 = nI 0) (hO : LO (μ.1 83) 0 j) : CtL m_M_known 7 [.ref 82, .int (nI j), .int t] μ (knF (kb (μ.1 83) 0 j t (μ.1 84)) 36) μ := by
  refine Ct.of (ls := [.ref 82, .int (nI j), .int t]) rfl (Nat.le_of_ble_eq_true rfl) rfl (fun X => ?_)
  refine r_aload_n 0 d_M_known_0 rfl rfl ?_
  refine r_iload_n 1 d_M_known_1 rfl rfl ?_
  refine r_callVi (c_M_isLearner hm _ _ hct) lk_M_115 (by first | with_reducible assumption | rfl) d_M_known_2 rfl rfl (Nat.le_of_ble_eq_true rfl) (by decide) ?_
  refine r_if_eq d_M_known_5 (fun h5 => absurd h5 (bzy (nIb hj hm))) (fun h5 => ?_)
  refine r_iload_n 2 d_M_known_8 rfl rfl ?_
  refine r_callSi (c_M_isTime _ _) lk_M_142 d_M_known_9 rfl rfl (Nat.le_of_ble_eq_true rfl) (by decide) ?_
  refine r_if_eq d_M_known_12 (fun h12 => absurd h12 (bzy ht)) (fun h12 => ?_)
  refine r_aload_n 0 d_M_known_15 rfl rfl ?_
  refine r_iload_n 1 d_M_known_16 rfl rfl ?_
  refine r_iload_n 2 d_M_known_17 rfl rfl ?_
  refine r_callVl (c_M_knownSet (A := 0) (by decide) (show j < 4 by omega) t ht _ hat hO) lk_M_196 (by first | with_reducible assumption | rfl) d_M_known_18 rfl rfl (Nat.le_of_ble_eq_true rfl) (by decide) ?_
  refine r_goto d_M_known_21 ?_
  refine r_lret d_M_known_27 rfl ?_
  exact ⟨rfl, rfl⟩
