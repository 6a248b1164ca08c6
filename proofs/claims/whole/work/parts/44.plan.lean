/-! what to tell first -/
def onF (g : Int32) (n : Nat) (f r : Nat → Int32) (p : Nat) : Int32 := behS (r p) g n (toldS (f p)) - behS (r p) g n (f p)
def twF (g : Int32) (n : Nat) (f r : Nat → Int32) (p : Nat) : Int32 := behS (r p) g n (toldS (toldS (f p))) - behS (r p) g n (f p)
def thF (g : Int32) (n : Nat) (f r : Nat → Int32) (p : Nat) : Int32 := behS (r p) g n (f p)
def wgM (μ : Me) (B O T : Nat → Int32) (i : Nat) : Me := uI (rI (rI μ 59 (cut i O (μ.1 59))) 60 (cut i T (μ.1 60))) 58 2 (sumF B i)
theorem wgM_s {μ : Me} {B O T : Nat → Int32} {i : Nat} : uI (uI (uI (wgM μ B O T i) 58 2 ((wgM μ B O T i).1 58 2 + B i)) 59 i (O i)) 60 i (T i) = wgM μ B O T (i + 1) := by
  have e : (wgM μ B O T i).1 58 2 = sumF B i := by rw [wgM, uI_at]
  rw [e]
  refine Me_ext (fun c' j' => ?_) (fun _ _ => rfl)
  by_cases h0 : c' = 60
  · subst h0
    rw [uI_eq, uI_ne (by decide), uI_ne (by decide), wgM, uI_ne (by decide), rI_eq, wgM, uI_ne (by decide), rI_eq, cut_s]
  · rw [uI_ne h0]
    by_cases h1 : c' = 59
    · subst h1
      rw [uI_eq, uI_ne (by decide), wgM, uI_ne (by decide), rI_ne (by decide), rI_eq, wgM, uI_ne (by decide), rI_ne (by decide), rI_eq, cut_s]
    · rw [uI_ne h1]
      by_cases h2 : c' = 58
      · subst h2
        by_cases h3 : j' = 2
        · subst h3; rw [uI_at, wgM, uI_at, sumF]
        · rw [uI_off h3, wgM, uI_off h3, wgM, uI_off h3, rI_ne (by decide), rI_ne (by decide), rI_ne (by decide), rI_ne (by decide)]
      · rw [uI_ne h2, wgM, uI_ne h2, rI_ne h0, rI_ne h1, wgM, uI_ne h2, rI_ne h0, rI_ne h1]
theorem wgM_lo {μ : Me} {B O T : Nat → Int32} {i c' : Nat} (h : c' < 58) : (wgM μ B O T i).1 c' = μ.1 c' := by rw [wgM, uI_ne (by omega), rI_ne (by omega), rI_ne (by omega)]
set_option maxHeartbeats 400000 in
theorem c_Plan_weigh {c : Nat} (hc : isL c) (n : Nat) (hn : n < 2 ^ 31) (g : Int32) (μ : Me) (hr : ∀ p, p < 36 → ¬ (100 * (μ.1 (c + 2) p + 1) = 0)) : CtV m_Plan_weigh 2 [.ref 58, .ref c, .int (nI n), .int g] μ (wgM μ (thF g n (μ.1 (c + 1)) (μ.1 (c + 2))) (onF g n (μ.1 (c + 1)) (μ.1 (c + 2))) (twF g n (μ.1 (c + 1)) (μ.1 (c + 2))) 36) := by
  refine Ct.of (ls := [.ref 58, .ref c, .int (nI n), .int g, flr, flr, flr, flr, flr]) rfl (Nat.le_of_ble_eq_true rfl) rfl (fun X => ?_)
  obtain ⟨s9, s0, s1, s2, s3⟩ := hc
  generalize hf : μ.1 (c + 1) = f at *
  generalize hrr : μ.1 (c + 2) = r at *
  refine r_aload_n 0 d_Plan_weigh_0 rfl rfl ?_
  refine r_iconst 0 d_Plan_weigh_1 rfl ?_
  refine r_putI fp_Plan_18 (by first | with_reducible assumption | rfl) rfl d_Plan_weigh_2 ?_
  refine r_iconst 0 d_Plan_weigh_5 rfl ?_
  refine r_istore 4 [_, _, _, _, _, _, _, _, _] d_Plan_weigh_6 (by decide) rfl ?_
  refine lpN 36 (fun i (μ1 : Me) => ∀ z1 z2 z3 z4 : Value, Wa X m_Plan_weigh 2 8 [.ref 58, .ref c, .int (nI n), .int g, .int (nI i), z1, z2, z3, z4] [] μ1 _) (fun i μ1 => μ1 = wgM μ (thF g n f r) (onF g n f r) (twF g n f r) i) ?_ 0 _ (Nat.zero_le _) ?_ _ _ _ _
  · intro i μ1 hi hw hk z1 z2 z3 z4
    have ef : μ1.1 (c + 1) = f := by rw [hw, wgM_lo (by omega), hf]
    have er : μ1.1 (c + 2) = r := by rw [hw, wgM_lo (by omega), hrr]
    refine r_iload 4 d_Plan_weigh_8 rfl ?_
    refine r_bipush (36) d_Plan_weigh_10 (by decide) ?_
    refine r_icmp_ge d_Plan_weigh_12 (fun h12 => ?_) (fun h12 => ?_)
    · refine r_ret d_Plan_weigh_114 rfl ?_
      have hge := n_le (a := 36) h12 rfl rfl (by decide) (by omega)
      obtain rfl : i = 36 := by omega
      exact ⟨rfl, hw⟩
    · have hl : i < 36 := n_lt (a := 36) h12 rfl rfl (by decide) (by omega)
      refine r_aload_n 1 d_Plan_weigh_15 rfl rfl ?_
      refine r_getR fl_Plan_28 (by first | with_reducible assumption | rfl) rfl d_Plan_weigh_16 ?_
      refine r_iload 4 d_Plan_weigh_19 rfl ?_
      refine r_ialdN (by first | with_reducible assumption | rfl) (by first | with_reducible assumption | omega | decide | assumption) d_Plan_weigh_21 ?_
      rw [er]
      refine r_istore 5 [_, _, _, _, _, _, _, _, _] d_Plan_weigh_22 (by decide) rfl ?_
      refine r_aload_n 1 d_Plan_weigh_24 rfl rfl ?_
      refine r_getR fl_Plan_33 (by first | with_reducible assumption | rfl) rfl d_Plan_weigh_25 ?_
      refine r_iload 4 d_Plan_weigh_28 rfl ?_
      refine r_ialdN (by first | with_reducible assumption | rfl) (by first | with_reducible assumption | omega | decide | assumption) d_Plan_weigh_30 ?_
      rw [ef]
      refine r_callSNi (c_S_firmWhenTold _ _) lk_Plan_36 d_Plan_weigh_31 rfl rfl (Nat.le_of_ble_eq_true rfl) (by decide) ?_
      refine r_istore 6 [_, _, _, _, _, _, _, _, _] d_Plan_weigh_34 (by decide) rfl ?_
      refine r_iload 6 d_Plan_weigh_36 rfl ?_
      refine r_callSNi (c_S_firmWhenTold _ _) lk_Plan_36 d_Plan_weigh_38 rfl rfl (Nat.le_of_ble_eq_true rfl) (by decide) ?_
      refine r_istore 7 [_, _, _, _, _, _, _, _, _] d_Plan_weigh_41 (by decide) rfl ?_
      refine r_aload_n 1 d_Plan_weigh_43 rfl rfl ?_
      refine r_getR fl_Plan_33 (by first | with_reducible assumption | rfl) rfl d_Plan_weigh_44 ?_
      refine r_iload 4 d_Plan_weigh_47 rfl ?_
      refine r_ialdN (by first | with_reducible assumption | rfl) (by first | with_reducible assumption | omega | decide | assumption) d_Plan_weigh_49 ?_
      rw [ef]
      refine r_iload 5 d_Plan_weigh_50 rfl ?_
      refine r_iload_n 2 d_Plan_weigh_52 rfl rfl ?_
      refine r_iload_n 3 d_Plan_weigh_53 rfl rfl ?_
      refine r_callSNi (c_S_firmBehindNights _ _ _ n hn (hr i hl) _) lk_Plan_40 d_Plan_weigh_54 rfl rfl (Nat.le_of_ble_eq_true rfl) (by decide) ?_
      refine r_istore 8 [_, _, _, _, _, _, _, _, _] d_Plan_weigh_57 (by decide) rfl ?_
      refine r_aload_n 0 d_Plan_weigh_59 rfl rfl ?_
      refine r_dup d_Plan_weigh_60 rfl ?_
      refine r_getI fl_Plan_18 (by first | with_reducible assumption | rfl) rfl d_Plan_weigh_61 ?_
      refine r_iload 8 d_Plan_weigh_64 rfl ?_
      refine r_iadd d_Plan_weigh_66 ?_
      refine r_putI fp_Plan_18 (by first | with_reducible assumption | rfl) rfl d_Plan_weigh_67 ?_
      refine r_aload_n 0 d_Plan_weigh_70 rfl rfl ?_
      refine r_getR fl_Plan_9 (by first | with_reducible assumption | rfl) rfl d_Plan_weigh_71 ?_
      refine r_iload 4 d_Plan_weigh_74 rfl ?_
      refine r_iload 6 d_Plan_weigh_76 rfl ?_
      refine r_iload 5 d_Plan_weigh_78 rfl ?_
      refine r_iload_n 2 d_Plan_weigh_80 rfl rfl ?_
      refine r_iload_n 3 d_Plan_weigh_81 rfl rfl ?_
      refine r_callSNi (c_S_firmBehindNights _ _ _ n hn (hr i hl) _) lk_Plan_40 d_Plan_weigh_82 rfl rfl (Nat.le_of_ble_eq_true rfl) (by decide) ?_
      refine r_iload 8 d_Plan_weigh_85 rfl ?_
      refine r_isub d_Plan_weigh_87 ?_
      refine r_iastN (by first | with_reducible assumption | rfl) (by first | with_reducible assumption | omega | decide | assumption) d_Plan_weigh_88 ?_
      refine r_aload_n 0 d_Plan_weigh_89 rfl rfl ?_
      refine r_getR fl_Plan_15 (by first | with_reducible assumption | rfl) rfl d_Plan_weigh_90 ?_
      refine r_iload 4 d_Plan_weigh_93 rfl ?_
      refine r_iload 7 d_Plan_weigh_95 rfl ?_
      refine r_iload 5 d_Plan_weigh_97 rfl ?_
      refine r_iload_n 2 d_Plan_weigh_99 rfl rfl ?_
      refine r_iload_n 3 d_Plan_weigh_100 rfl rfl ?_
      refine r_callSNi (c_S_firmBehindNights _ _ _ n hn (hr i hl) _) lk_Plan_40 d_Plan_weigh_101 rfl rfl (Nat.le_of_ble_eq_true rfl) (by decide) ?_
      refine r_iload 8 d_Plan_weigh_104 rfl ?_
      refine r_isub d_Plan_weigh_106 ?_
      refine r_iastN (by first | with_reducible assumption | rfl) (by first | with_reducible assumption | omega | decide | assumption) d_Plan_weigh_107 ?_
      first | refine r_iincN 4 [_, _, _, _, _, _, _, _, _] d_Plan_weigh_108 (by decide) rfl rfl ?_ | refine r_iinc 4 [_, _, _, _, _, _, _, _, _] (1) d_Plan_weigh_108 (by decide) (by decide) rfl rfl ?_
      refine r_goto d_Plan_weigh_111 ?_
      refine hk _ hl ?_ _ _ _ _
      rw [hw]
      exact wgM_s
  · rw [wgM, cut_0, cut_0, rI_self, rI_self, sumF]
def ofr (w : Int32 × Int32) (p b : Int32) : Int32 × Int32 := if w.1 < b then (b, p) else w
def plM (μ : Me) (w : Int32 × Int32) : Me := uI (uI μ 58 3 w.1) 58 4 w.2
theorem plM_3 {μ : Me} {w : Int32 × Int32} : (plM μ w).1 58 3 = w.1 := by rw [plM, uI_off (by decide), uI_at]
theorem plM_4 {μ : Me} {w : Int32 × Int32} : (plM μ w).1 58 4 = w.2 := by rw [plM, uI_at]
theorem plM_2 {μ : Me} {w : Int32 × Int32} : (plM μ w).1 58 2 = μ.1 58 2 := by rw [plM, uI_off (by decide), uI_off (by decide)]
theorem plM_ne {μ : Me} {w : Int32 × Int32} {c : Nat} (h : c ≠ 58) : (plM μ w).1 c = μ.1 c := by rw [plM, uI_ne h, uI_ne h]
theorem plM_of {μ : Me} {w : Int32 × Int32} {p b : Int32} : (if (plM μ w).1 58 3 < b then uI (uI (plM μ w) 58 3 b) 58 4 p else plM μ w) = plM μ (ofr w p b) := by
  rw [plM_3, ofr]
  split
  · refine Me_ext (fun c' j' => ?_) (fun _ _ => rfl)
    by_cases h : c' = 58
    · subst h
      simp only [plM, uI, rI, if_true, upd]
      grind
    · rw [uI_ne h, uI_ne h, plM_ne h, plM_ne h]
  · rfl
theorem plM_0 {μ : Me} : uI μ 58 3 (-1) = plM μ (-1, μ.1 58 4) := by
  refine Me_ext (fun c' j' => ?_) (fun _ _ => rfl)
  by_cases h : c' = 58
  · subst h
    simp only [plM, uI, rI, if_true, upd]
    grind
  · rw [uI_ne h, plM_ne h]
set_option maxHeartbeats 400000 in
theorem c_Plan_offer' (p b : Int32) (μ : Me) (w : Int32 × Int32) : CtV m_Plan_offer 0 [.ref 58, .int p, .int b] (plM μ w) (plM μ (ofr w p b)) := by
  have h := c_Plan_offer p b (plM μ w)
  rw [plM_of] at h
  exact h
def o1F (g : Nat → Int32) (w : Int32 × Int32) : Nat → Int32 × Int32
  | 0 => w
  | i + 1 => ofr (o1F g w i) (nI i) (g i)
set_option maxHeartbeats 400000 in
theorem c_Plan_chooseOne (μ : Me) : CtV m_Plan_chooseOne 1 [.ref 58] μ (plM μ (o1F (μ.1 59) (-1, μ.1 58 4) 36)) := by
  refine Ct.of (ls := [.ref 58, flr]) rfl (Nat.le_of_ble_eq_true rfl) rfl (fun X => ?_)
  refine r_aload_n 0 d_Plan_chooseOne_0 rfl rfl ?_
  refine r_iconst (-1) d_Plan_chooseOne_1 rfl ?_
  refine r_putI fp_Plan_22 (by first | with_reducible assumption | rfl) rfl d_Plan_chooseOne_2 ?_
  refine r_iconst 0 d_Plan_chooseOne_5 rfl ?_
  refine r_istore_n 1 [_, _] d_Plan_chooseOne_6 rfl (by decide) rfl ?_
  rw [plM_0]
  refine lpN 36 (fun i (w : Int32 × Int32) => Wa X m_Plan_chooseOne 1 7 [.ref 58, .int (nI i)] [] (plM μ w) _) (fun i w => w = o1F (μ.1 59) (-1, μ.1 58 4) i) ?_ 0 (-1, μ.1 58 4) (Nat.zero_le _) rfl
  intro i w hi hw hk
  refine r_iload_n 1 d_Plan_chooseOne_7 rfl rfl ?_
  refine r_bipush (36) d_Plan_chooseOne_8 (by decide) ?_
  refine r_icmp_ge d_Plan_chooseOne_10 (fun h10 => ?_) (fun h10 => ?_)
  · refine r_ret d_Plan_chooseOne_30 rfl ?_
    have hge := n_le (a := 36) h10 rfl rfl (by decide) (by omega)
    obtain rfl : i = 36 := by omega
    exact ⟨rfl, by rw [hw]⟩
  · have hl : i < 36 := n_lt (a := 36) h10 rfl rfl (by decide) (by omega)
    refine r_aload_n 0 d_Plan_chooseOne_13 rfl rfl ?_
    refine r_iload_n 1 d_Plan_chooseOne_14 rfl rfl ?_
    refine r_aload_n 0 d_Plan_chooseOne_15 rfl rfl ?_
    refine r_getR fl_Plan_9 (by first | with_reducible assumption | rfl) rfl d_Plan_chooseOne_16 ?_
    refine r_iload_n 1 d_Plan_chooseOne_19 rfl rfl ?_
    refine r_ialdN (by first | with_reducible assumption | rfl) (by first | with_reducible assumption | omega | decide | assumption) d_Plan_chooseOne_20 ?_
    rw [plM_ne (by decide)]
    refine r_callVv (c_Plan_offer' _ _ _ _) lk_Plan_44 (by first | with_reducible assumption | rfl) d_Plan_chooseOne_21 rfl rfl (Nat.le_of_ble_eq_true rfl) (by decide) ?_
    first | refine r_iincN 1 [_, _] d_Plan_chooseOne_24 (by decide) rfl rfl ?_ | refine r_iinc 1 [_, _] (1) d_Plan_chooseOne_24 (by decide) (by decide) rfl rfl ?_
    refine r_goto d_Plan_chooseOne_27 ?_
    refine hk _ hl ?_
    rw [o1F, hw]
def inF (g : Nat → Int32) (p : Nat) (w : Int32 × Int32) : Nat → Int32 × Int32
  | 0 => w
  | k + 1 => ofr (inF g p w k) (nI p) (g p + g (p + 1 + k))
def o2F (g t : Nat → Int32) (w : Int32 × Int32) : Nat → Int32 × Int32
  | 0 => w
  | p + 1 => inF g p (ofr (o2F g t w p) (nI p) (t p)) (35 - p)
set_option maxHeartbeats 400000 in
theorem c_Plan_chooseTwo (μ : Me) : CtV m_Plan_chooseTwo 1 [.ref 58] μ (plM μ (o2F (μ.1 59) (μ.1 60) (-1, μ.1 58 4) 36)) := by
  refine Ct.of (ls := [.ref 58, flr, flr]) rfl (Nat.le_of_ble_eq_true rfl) rfl (fun X => ?_)
  refine r_aload_n 0 d_Plan_chooseTwo_0 rfl rfl ?_
  refine r_iconst (-1) d_Plan_chooseTwo_1 rfl ?_
  refine r_putI fp_Plan_22 (by first | with_reducible assumption | rfl) rfl d_Plan_chooseTwo_2 ?_
  refine r_iconst 0 d_Plan_chooseTwo_5 rfl ?_
  refine r_istore_n 1 [_, _, _] d_Plan_chooseTwo_6 rfl (by decide) rfl ?_
  rw [plM_0]
  refine lpN 36 (fun i (w : Int32 × Int32) => ∀ z1 : Value, Wa X m_Plan_chooseTwo 1 7 [.ref 58, .int (nI i), z1] [] (plM μ w) _) (fun i w => w = o2F (μ.1 59) (μ.1 60) (-1, μ.1 58 4) i) ?_ 0 (-1, μ.1 58 4) (Nat.zero_le _) rfl _
  intro i w hi hw hk z1
  refine r_iload_n 1 d_Plan_chooseTwo_7 rfl rfl ?_
  refine r_bipush (36) d_Plan_chooseTwo_8 (by decide) ?_
  refine r_icmp_ge d_Plan_chooseTwo_10 (fun h10 => ?_) (fun h10 => ?_)
  · refine r_ret d_Plan_chooseTwo_64 rfl ?_
    have hge := n_le (a := 36) h10 rfl rfl (by decide) (by omega)
    obtain rfl : i = 36 := by omega
    exact ⟨rfl, by rw [hw]⟩
  · have hl : i < 36 := n_lt (a := 36) h10 rfl rfl (by decide) (by omega)
    refine r_aload_n 0 d_Plan_chooseTwo_13 rfl rfl ?_
    refine r_iload_n 1 d_Plan_chooseTwo_14 rfl rfl ?_
    refine r_aload_n 0 d_Plan_chooseTwo_15 rfl rfl ?_
    refine r_getR fl_Plan_15 (by first | with_reducible assumption | rfl) rfl d_Plan_chooseTwo_16 ?_
    refine r_iload_n 1 d_Plan_chooseTwo_19 rfl rfl ?_
    refine r_ialdN (by first | with_reducible assumption | rfl) (by first | with_reducible assumption | omega | decide | assumption) d_Plan_chooseTwo_20 ?_
    rw [plM_ne (by decide)]
    refine r_callVv (c_Plan_offer' _ _ _ _) lk_Plan_44 (by first | with_reducible assumption | rfl) d_Plan_chooseTwo_21 rfl rfl (Nat.le_of_ble_eq_true rfl) (by decide) ?_
    refine r_iload_n 1 d_Plan_chooseTwo_24 rfl rfl ?_
    refine r_iconst 1 d_Plan_chooseTwo_25 rfl ?_
    refine r_iadd d_Plan_chooseTwo_26 ?_
    rw [nI_1]
    refine r_istore_n 2 [_, _, _] d_Plan_chooseTwo_27 rfl (by decide) rfl ?_
    have lp := lpN (35 - i) (fun k (v : Int32 × Int32) => Wa X m_Plan_chooseTwo 1 28 [.ref 58, .int (nI i), .int (nI (i + 1 + k))] [] (plM μ v) (fun r μ' => r = none ∧ μ' = plM μ (o2F (μ.1 59) (μ.1 60) (-1, μ.1 58 4) 36))) (fun k v => v = inF (μ.1 59) i (ofr w (nI i) (μ.1 60 i)) k) ?_ 0 _ (Nat.zero_le _) rfl
    · exact lp
    · intro k v hki hv hkk
      refine r_iload_n 2 d_Plan_chooseTwo_28 rfl rfl ?_
      refine r_bipush (36) d_Plan_chooseTwo_29 (by decide) ?_
      refine r_icmp_ge d_Plan_chooseTwo_31 (fun h31 => ?_) (fun h31 => ?_)
      · have hge2 := n_le (a := 36) h31 rfl rfl (by decide) (by omega)
        obtain rfl : k = 35 - i := by omega
        first | refine r_iincN 1 [_, _, _] d_Plan_chooseTwo_58 (by decide) rfl rfl ?_ | refine r_iinc 1 [_, _, _] (1) d_Plan_chooseTwo_58 (by decide) (by decide) rfl rfl ?_
        refine r_goto d_Plan_chooseTwo_61 ?_
        refine hk _ hl ?_ _
        rw [o2F, ← hw, hv]
      · have hl2 : i + 1 + k < 36 := n_lt (a := 36) h31 rfl rfl (by decide) (by omega)
        refine r_aload_n 0 d_Plan_chooseTwo_34 rfl rfl ?_
        refine r_iload_n 1 d_Plan_chooseTwo_35 rfl rfl ?_
        refine r_aload_n 0 d_Plan_chooseTwo_36 rfl rfl ?_
        refine r_getR fl_Plan_9 (by first | with_reducible assumption | rfl) rfl d_Plan_chooseTwo_37 ?_
        refine r_iload_n 1 d_Plan_chooseTwo_40 rfl rfl ?_
        refine r_ialdN (by first | with_reducible assumption | rfl) (by first | with_reducible assumption | omega | decide | assumption) d_Plan_chooseTwo_41 ?_
        refine r_aload_n 0 d_Plan_chooseTwo_42 rfl rfl ?_
        refine r_getR fl_Plan_9 (by first | with_reducible assumption | rfl) rfl d_Plan_chooseTwo_43 ?_
        refine r_iload_n 2 d_Plan_chooseTwo_46 rfl rfl ?_
        refine r_ialdN (by first | with_reducible assumption | rfl) (by first | with_reducible assumption | omega | decide | assumption) d_Plan_chooseTwo_47 ?_
        refine r_iadd d_Plan_chooseTwo_48 ?_
        rw [plM_ne (by decide)]
        refine r_callVv (c_Plan_offer' _ _ _ _) lk_Plan_44 (by first | with_reducible assumption | rfl) d_Plan_chooseTwo_49 rfl rfl (Nat.le_of_ble_eq_true rfl) (by decide) ?_
        first | refine r_iincN 2 [_, _, _] d_Plan_chooseTwo_52 (by decide) rfl rfl ?_ | refine r_iinc 2 [_, _, _] (1) d_Plan_chooseTwo_52 (by decide) (by decide) rfl rfl ?_
        refine r_goto d_Plan_chooseTwo_55 ?_
        refine hkk _ (by omega) ?_
        rw [inF, hv]
set_option maxHeartbeats 400000 in
theorem c_S_best_no {m : Nat} (l n d w : Int32) (μ : Me) (hct : μ.1 1 1 = nI m) (hm : m ≤ 4) (hG : ¬ ((0 ≤ l ∧ l < nI m) ∧ (1 ≤ n ∧ n ≤ 2) ∧ (0 ≤ d ∧ d ≤ 9) ∧ 0 ≤ w ∧ w ≤ 1)) : CtI m_S_best 3 [.ref 0, .int l, .int n, .int d, .int w] μ (-1) μ := by
  refine Ct.of (ls := [.ref 0, .int l, .int n, .int d, .int w, flr]) rfl (Nat.le_of_ble_eq_true rfl) rfl (fun X => ?_)
  by_cases hg : 0 ≤ l ∧ l < nI m
  · obtain ⟨j, hj, rfl⟩ := lr_yes hm hg
    refine r_aload_n 0 d_S_best_0 rfl rfl ?_
    refine r_getR fl_S_12 (by first | with_reducible assumption | rfl) rfl d_S_best_1 ?_
    refine r_iload_n 1 d_S_best_4 rfl rfl ?_
    refine r_callVa (c_School_learnerAt_yes j m hj hm _ hct) lk_S_127 (by first | with_reducible assumption | rfl) d_S_best_5 rfl rfl (Nat.le_of_ble_eq_true rfl) (by decide) ?_
    refine r_astore 5 [_, _, _, _, _, _] d_S_best_8 (by decide) rfl ?_
    refine r_aload 5 d_S_best_10 rfl ?_
    refine r_ifnull d_S_best_12 ?_
    refine r_iload_n 2 d_S_best_15 rfl rfl ?_
    refine r_iconst 1 d_S_best_16 rfl ?_
    refine r_icmp_lt d_S_best_17 (fun h17 => ?_) (fun h17 => ?_)
    · refine r_iconst (-1) d_S_best_43 rfl ?_
      refine r_iret .int d_S_best_44 rfl rfl ?_
      exact ⟨rfl, rfl⟩
    · refine r_iload_n 2 d_S_best_20 rfl rfl ?_
      refine r_iconst 2 d_S_best_21 rfl ?_
      refine r_icmp_gt d_S_best_22 (fun h22 => ?_) (fun h22 => ?_)
      · refine r_iconst (-1) d_S_best_43 rfl ?_
        refine r_iret .int d_S_best_44 rfl rfl ?_
        exact ⟨rfl, rfl⟩
      · refine r_iload_n 3 d_S_best_25 rfl rfl ?_
        refine r_bipush (9) d_S_best_26 (by decide) ?_
        refine r_callSi (c_S_isWithin _ _ _) lk_S_118 d_S_best_28 rfl rfl (Nat.le_of_ble_eq_true rfl) (by decide) ?_
        refine r_if_eq d_S_best_31 (fun h31 => ?_) (fun h31 => ?_)
        · refine r_iconst (-1) d_S_best_43 rfl ?_
          refine r_iret .int d_S_best_44 rfl rfl ?_
          exact ⟨rfl, rfl⟩
        · refine r_iload 4 d_S_best_34 rfl ?_
          refine r_iconst 1 d_S_best_36 rfl ?_
          refine r_callSi (c_S_isWithin _ _ _) lk_S_118 d_S_best_37 rfl rfl (Nat.le_of_ble_eq_true rfl) (by decide) ?_
          refine r_if_ne d_S_best_40 (fun h40 => absurd (bz_0.mpr (fun z => hG ⟨hg, ⟨Int32.not_lt.mp h17, Int32.not_lt.mp h22⟩, bz_p h31, z⟩)) h40) (fun h40 => ?_)
          refine r_iconst (-1) d_S_best_43 rfl ?_
          refine r_iret .int d_S_best_44 rfl rfl ?_
          exact ⟨rfl, rfl⟩
  · have hno := lr_no hg
    rw [← hct] at hno
    refine r_aload_n 0 d_S_best_0 rfl rfl ?_
    refine r_getR fl_S_12 (by first | with_reducible assumption | rfl) rfl d_S_best_1 ?_
    refine r_iload_n 1 d_S_best_4 rfl rfl ?_
    refine r_callVa (c_School_learnerAt_no _ _ hno) lk_S_127 (by first | with_reducible assumption | rfl) d_S_best_5 rfl rfl (Nat.le_of_ble_eq_true rfl) (by decide) ?_
    refine r_astoreN 5 [_, _, _, _, _, _] d_S_best_8 (by decide) rfl ?_
    refine r_aloadN 5 d_S_best_10 rfl ?_
    refine r_ifnullN d_S_best_12 ?_
    refine r_iconst (-1) d_S_best_43 rfl ?_
    refine r_iret .int d_S_best_44 rfl rfl ?_
    exact ⟨rfl, rfl⟩
def bsW (μ : Me) (c n d : Nat) : Int32 × Int32 := if n = 1 then o1F (cut 36 (onF (μ.1 3 0) d (μ.1 (c + 1)) (μ.1 (c + 2))) (μ.1 59)) (-1, μ.1 58 4) 36 else o2F (cut 36 (onF (μ.1 3 0) d (μ.1 (c + 1)) (μ.1 (c + 2))) (μ.1 59)) (cut 36 (twF (μ.1 3 0) d (μ.1 (c + 1)) (μ.1 (c + 2))) (μ.1 60)) (-1, μ.1 58 4) 36
def bsM (μ : Me) (c d : Nat) : Me := wgM μ (thF (μ.1 3 0) d (μ.1 (c + 1)) (μ.1 (c + 2))) (onF (μ.1 3 0) d (μ.1 (c + 1)) (μ.1 (c + 2))) (twF (μ.1 3 0) d (μ.1 (c + 1)) (μ.1 (c + 2))) 36
theorem bsM_59 {μ : Me} {c d : Nat} : (bsM μ c d).1 59 = cut 36 (onF (μ.1 3 0) d (μ.1 (c + 1)) (μ.1 (c + 2))) (μ.1 59) := by rw [bsM, wgM, uI_ne (by decide), rI_ne (by decide), rI_eq]
theorem bsM_60 {μ : Me} {c d : Nat} : (bsM μ c d).1 60 = cut 36 (twF (μ.1 3 0) d (μ.1 (c + 1)) (μ.1 (c + 2))) (μ.1 60) := by rw [bsM, wgM, uI_ne (by decide), rI_eq]
theorem bsM_2 {μ : Me} {c d : Nat} : (bsM μ c d).1 58 2 = sumF (thF (μ.1 3 0) d (μ.1 (c + 1)) (μ.1 (c + 2))) 36 := by rw [bsM, wgM, uI_at]
theorem bsM_4 {μ : Me} {c d : Nat} : (bsM μ c d).1 58 4 = μ.1 58 4 := by rw [bsM, wgM, uI_off (by decide), rI_ne (by decide), rI_ne (by decide)]
set_option maxHeartbeats 400000 in
theorem c_S_best {m j n d : Nat} (hm : m ≤ 4) (hj : j < m) (hn : n = 1 ∨ n = 2) (hd : d ≤ 9) (w : Int32) (hw : 0 ≤ w ∧ w ≤ 1) (μ : Me) (hct : μ.1 1 1 = nI m) (hr : ∀ p, p < 36 → ¬ (100 * (μ.1 (8 + 4 * j + 2) p + 1) = 0)) : CtI m_S_best 3 [.ref 0, .int (nI j), .int (nI n), .int (nI d), .int w] μ (if w = 0 then sumF (thF (μ.1 3 0) d (μ.1 (8 + 4 * j + 1)) (μ.1 (8 + 4 * j + 2))) 36 + (bsW μ (8 + 4 * j) n d).1 else (bsW μ (8 + 4 * j) n d).2) (plM (bsM μ (8 + 4 * j) d) (bsW μ (8 + 4 * j) n d)) := by
  refine Ct.of (ls := [.ref 0, .int (nI j), .int (nI n), .int (nI d), .int w, flr]) rfl (Nat.le_of_ble_eq_true rfl) rfl (fun X => ?_)
  have k86 : ∀ q : Int32 × Int32, Wa X m_S_best 3 86 [.ref 0, .int (nI j), .int (nI n), .int (nI d), .int w, .ref (8 + 4 * j)] [] (plM (bsM μ (8 + 4 * j) d) q) (fun r μ' => r = some (.int (if w = 0 then sumF (thF (μ.1 3 0) d (μ.1 (8 + 4 * j + 1)) (μ.1 (8 + 4 * j + 2))) 36 + q.1 else q.2)) ∧ μ' = plM (bsM μ (8 + 4 * j) d) q) := by
    intro q
    refine r_iload 4 d_S_best_86 rfl ?_
    refine r_if_ne d_S_best_88 (fun h88 => ?_) (fun h88 => ?_)
    · refine r_aload_n 0 d_S_best_109 rfl rfl ?_
      refine r_getR fl_S_54 (by first | with_reducible assumption | rfl) rfl d_S_best_110 ?_
      refine r_getI fl_S_265 (by first | with_reducible assumption | rfl) rfl d_S_best_113 ?_
      refine r_iret .int d_S_best_116 rfl rfl ?_
      refine ⟨?_, rfl⟩
      first
        | (rw [if_neg h88, plM_4])
        | (rw [if_pos h88, plM_2, plM_3, bsM_2])
    · refine r_aload_n 0 d_S_best_91 rfl rfl ?_
      refine r_getR fl_S_54 (by first | with_reducible assumption | rfl) rfl d_S_best_92 ?_
      refine r_getI fl_S_259 (by first | with_reducible assumption | rfl) rfl d_S_best_95 ?_
      refine r_aload_n 0 d_S_best_98 rfl rfl ?_
      refine r_getR fl_S_54 (by first | with_reducible assumption | rfl) rfl d_S_best_99 ?_
      refine r_getI fl_S_262 (by first | with_reducible assumption | rfl) rfl d_S_best_102 ?_
      refine r_iadd d_S_best_105 ?_
      refine r_goto d_S_best_106 ?_
      refine r_iret .int d_S_best_116 rfl rfl ?_
      refine ⟨?_, rfl⟩
      first
        | (rw [if_neg h88, plM_4])
        | (rw [if_pos h88, plM_2, plM_3, bsM_2])
  refine r_aload_n 0 d_S_best_0 rfl rfl ?_
  refine r_getR fl_S_12 (by first | with_reducible assumption | rfl) rfl d_S_best_1 ?_
  refine r_iload_n 1 d_S_best_4 rfl rfl ?_
  refine r_callVa (c_School_learnerAt_yes j m hj hm _ hct) lk_S_127 (by first | with_reducible assumption | rfl) d_S_best_5 rfl rfl (Nat.le_of_ble_eq_true rfl) (by decide) ?_
  refine r_astore 5 [_, _, _, _, _, _] d_S_best_8 (by decide) rfl ?_
  refine r_aload 5 d_S_best_10 rfl ?_
  refine r_ifnull d_S_best_12 ?_
  refine r_iload_n 2 d_S_best_15 rfl rfl ?_
  refine r_iconst 1 d_S_best_16 rfl ?_
  refine r_icmp_lt d_S_best_17 (fun h17 => absurd h17 (nI_nlt (a := n) (b := 1) (by omega) (by omega))) (fun h17 => ?_)
  refine r_iload_n 2 d_S_best_20 rfl rfl ?_
  refine r_iconst 2 d_S_best_21 rfl ?_
  refine r_icmp_gt d_S_best_22 (fun h22 => absurd h22 (nI_nlt (a := 2) (b := n) (by omega) (by omega))) (fun h22 => ?_)
  refine r_iload_n 3 d_S_best_25 rfl rfl ?_
  refine r_bipush (9) d_S_best_26 (by decide) ?_
  refine r_callSi (c_S_isWithin _ _ _) lk_S_118 d_S_best_28 rfl rfl (Nat.le_of_ble_eq_true rfl) (by decide) ?_
  refine r_if_eq d_S_best_31 (fun h31 => absurd h31 (fun z => bz_np z ⟨nI_pos' (by omega), nI_le hd (by decide)⟩)) (fun h31 => ?_)
  refine r_iload 4 d_S_best_34 rfl ?_
  refine r_iconst 1 d_S_best_36 rfl ?_
  refine r_callSi (c_S_isWithin _ _ _) lk_S_118 d_S_best_37 rfl rfl (Nat.le_of_ble_eq_true rfl) (by decide) ?_
  refine r_if_ne d_S_best_40 (fun h40 => ?_) (fun h40 => absurd h40 (fun z => bz_np z hw))
  refine r_aload_n 0 d_S_best_45 rfl rfl ?_
  refine r_getR fl_S_54 (by first | with_reducible assumption | rfl) rfl d_S_best_46 ?_
  refine r_aload 5 d_S_best_49 rfl ?_
  refine r_iload_n 3 d_S_best_51 rfl rfl ?_
  refine r_aload_n 0 d_S_best_52 rfl rfl ?_
  refine r_getR fl_S_12 (by first | with_reducible assumption | rfl) rfl d_S_best_53 ?_
  refine r_getR fl_S_184 (by first | with_reducible assumption | rfl) rfl d_S_best_56 ?_
  refine r_iconst 0 d_S_best_59 rfl ?_
  refine r_ialdN (j := 0) (by first | with_reducible assumption | rfl) (by first | with_reducible assumption | omega | decide | assumption) d_S_best_60 ?_
  refine r_callVv (c_Plan_weigh (isL_s j (by omega)) d (by omega) _ _ hr) lk_S_249 (by first | with_reducible assumption | rfl) d_S_best_61 rfl rfl (Nat.le_of_ble_eq_true rfl) (by decide) ?_
  show Wa X _ _ _ _ _ (bsM μ (8 + 4 * j) d) _
  refine r_iload_n 2 d_S_best_64 rfl rfl ?_
  refine r_iconst 1 d_S_best_65 rfl ?_
  refine r_icmp_ne d_S_best_66 (fun h66 => ?_) (fun h66 => ?_)
  · refine r_aload_n 0 d_S_best_79 rfl rfl ?_
    refine r_getR fl_S_54 (by first | with_reducible assumption | rfl) rfl d_S_best_80 ?_
    refine r_callVv (c_Plan_chooseTwo _) lk_S_256 (by first | with_reducible assumption | rfl) d_S_best_83 rfl rfl (Nat.le_of_ble_eq_true rfl) (by decide) ?_
    have hb := k86 (bsW μ (8 + 4 * j) n d)
    first
      | (rw [bsM_59, bsM_4]
         rw [bsW, if_pos (show n = 1 from (nI_eq (b := 1) (by omega) (by decide)).mp h66)] at *
         exact hb)
      | (rw [bsM_59, bsM_60, bsM_4]
         rw [bsW, if_neg (show ¬ n = 1 from fun z => h66 (by rw [z]; rfl))] at *
         exact hb)
  · refine r_aload_n 0 d_S_best_69 rfl rfl ?_
    refine r_getR fl_S_54 (by first | with_reducible assumption | rfl) rfl d_S_best_70 ?_
    refine r_callVv (c_Plan_chooseOne _) lk_S_253 (by first | with_reducible assumption | rfl) d_S_best_73 rfl rfl (Nat.le_of_ble_eq_true rfl) (by decide) ?_
    refine r_goto d_S_best_76 ?_
    have hb := k86 (bsW μ (8 + 4 * j) n d)
    first
      | (rw [bsM_59, bsM_4]
         rw [bsW, if_pos (show n = 1 from (nI_eq (b := 1) (by omega) (by decide)).mp h66)] at *
         exact hb)
      | (rw [bsM_59, bsM_60, bsM_4]
         rw [bsW, if_neg (show ¬ n = 1 from fun z => h66 (by rw [z]; rfl))] at *
         exact hb)
