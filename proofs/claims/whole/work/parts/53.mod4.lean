/-! what the reference says -/
def slS (k a : Int32) (f : Nat → Int32) (p : Nat) (t s : Int32) : Int32 := if k = 5 ∨ ¬ feelS k a (f (ftS k a f p t 4).1.toNatClampNeg) t < s then (ftS k a f p t 4).1 else -3
theorem LO.feel {g : Nat → Int32} {A l : Nat} (h : LO g A l) (k t : Int32) : ∀ q, q < 36 → 0 ≤ feelS k (aM g A l) (fM g A l q) t := fun q hq => (feel_ge h.1 (h.2 q hq)).1
set_option maxHeartbeats 400000 in
theorem c_M_slipTo {A l p : Nat} (hA : A ≤ 442) (hl : l < 4) (hp : p < 36) (t : Int32) (μ : Me) (hat : μ.1 82 1 = nI A) (hO : LO (μ.1 83) A l) : CtI m_M_slipTo 3 [.ref 82, .int (nI l), .int (nI p), .int t] μ (slS (kM (μ.1 83) A l) (aM (μ.1 83) A l) (fM (μ.1 83) A l) p t (μ.1 84 2)) μ := by
  refine Ct.of (ls := [.ref 82, .int (nI l), .int (nI p), .int t, flr, flr, flr, flr]) rfl (Nat.le_of_ble_eq_true rfl) rfl (fun X => ?_)
  obtain ⟨c, hc, ec, bc⟩ := ft_ok (k := kM (μ.1 83) A l) (a := aM (μ.1 83) A l) (f := fM (μ.1 83) A l) (p := p) (t := t) hp (hO.feel _ _)
  rw [slS, ec, cl36 hc (by decide)]
  refine r_iconst (-1) d_M_slipTo_0 rfl ?_
  refine r_istore 4 [_, _, _, _, _, _, _, _] d_M_slipTo_1 (by decide) rfl ?_
  refine r_iload_n 2 d_M_slipTo_3 rfl rfl ?_
  refine r_callSl (c_M_tiedTo hp _) lk_M_101 d_M_slipTo_4 rfl rfl (Nat.le_of_ble_eq_true rfl) (by decide) ?_
  refine r_lstore 5 [_, _, _, _, _, _, _, _] d_M_slipTo_7 (by decide) rfl ?_
  refine r_iconst 0 d_M_slipTo_9 rfl ?_
  refine r_istore 7 [_, _, _, _, _, _, _, _] d_M_slipTo_10 (by decide) rfl ?_
  refine lpN 36 (fun i (w : Int32) => Wa X m_M_slipTo 3 12 [.ref 82, .int (nI l), .int (nI p), .int t, .int w, .long (tiedF p 4), flr, .int (nI i)] [] μ _) (fun i w => (w = -1 ∧ ∀ q, q < i → ¬ tieB p q = true) ∨ ∃ b, w = nI b ∧ bestOf (fun q => feelS (kM (μ.1 83) A l) (aM (μ.1 83) A l) (fM (μ.1 83) A l q) t) (fun q => q < i ∧ tieB p q = true) b) ?_ 0 (-1) (Nat.zero_le _) (Or.inl ⟨rfl, fun _ hh => absurd hh (Nat.not_lt_zero _)⟩)
  intro i w hi hw hk
  rcases hw with ⟨rfl, hno⟩ | ⟨b, rfl, hb⟩
  · refine r_iload 7 d_M_slipTo_12 rfl ?_
    refine r_bipush (36) d_M_slipTo_14 (by decide) ?_
    refine r_icmp_ge d_M_slipTo_16 (fun h16 => ?_) (fun h16 => ?_)
    · have h1 := n_le (a := 36) h16 rfl rfl (by decide) (by omega)
      exact absurd bc.1.2 (hno c (by omega))
    · have hli : i < 36 := n_lt (a := 36) h16 rfl rfl (by decide) (by omega)
      refine r_lload 5 d_M_slipTo_19 rfl ?_
      refine r_iload 7 d_M_slipTo_21 rfl ?_
      refine r_lshr d_M_slipTo_23 ?_
      refine r_lconst 1 d_M_slipTo_24 rfl ?_
      refine r_land d_M_slipTo_25 ?_
      refine r_lconst 1 d_M_slipTo_26 rfl ?_
      refine r_lcmp d_M_slipTo_27 ?_
      refine r_if_ne d_M_slipTo_28 (fun h28 => ?_) (fun h28 => ?_)
      · first | refine r_iincN 7 [_, _, _, _, _, _, _, _] d_M_slipTo_73 (by decide) rfl rfl ?_ | refine r_iinc 7 [_, _, _, _, _, _, _, _] (1) d_M_slipTo_73 (by decide) (by decide) rfl rfl ?_
        refine r_goto d_M_slipTo_76 ?_
        refine hk _ hli ?_
        first
          | exact Or.inr ⟨i, rfl, ⟨by omega, decide_eq_true h28⟩, fun q hq => by
              rcases Nat.lt_or_ge q i with z | z
              · exact absurd hq.2 (hno q z)
              · exact Or.inr ⟨by rw [show q = i by omega], z⟩⟩
          | exact Or.inl ⟨rfl, fun q hq => by
              rcases Nat.lt_or_ge q i with z | z
              · exact hno q z
              · rw [show q = i by omega]; exact fun y => h28 (of_decide_eq_true y)⟩
      · refine r_iload 4 d_M_slipTo_31 rfl ?_
        refine r_if_lt d_M_slipTo_33 (fun h33 => ?_) (fun h33 => absurd (by decide) h33)
        refine r_iload 7 d_M_slipTo_64 rfl ?_
        refine r_goto d_M_slipTo_66 ?_
        refine r_istore 4 [_, _, _, _, _, _, _, _] d_M_slipTo_71 (by decide) rfl ?_
        first | refine r_iincN 7 [_, _, _, _, _, _, _, _] d_M_slipTo_73 (by decide) rfl rfl ?_ | refine r_iinc 7 [_, _, _, _, _, _, _, _] (1) d_M_slipTo_73 (by decide) (by decide) rfl rfl ?_
        refine r_goto d_M_slipTo_76 ?_
        refine hk _ hli ?_
        first
          | exact Or.inr ⟨i, rfl, ⟨by omega, decide_eq_true h28⟩, fun q hq => by
              rcases Nat.lt_or_ge q i with z | z
              · exact absurd hq.2 (hno q z)
              · exact Or.inr ⟨by rw [show q = i by omega], z⟩⟩
          | exact Or.inl ⟨rfl, fun q hq => by
              rcases Nat.lt_or_ge q i with z | z
              · exact hno q z
              · rw [show q = i by omega]; exact fun y => h28 (of_decide_eq_true y)⟩
  · refine r_iload 7 d_M_slipTo_12 rfl ?_
    refine r_bipush (36) d_M_slipTo_14 (by decide) ?_
    refine r_icmp_ge d_M_slipTo_16 (fun h16 => ?_) (fun h16 => ?_)
    · have h1 := n_le (a := 36) h16 rfl rfl (by decide) (by omega)
      obtain rfl : i = 36 := by omega
      have hb36 : b < 36 := hb.1.1
      obtain rfl : b = c := hb.uniq bc
      refine r_aload_n 0 d_M_slipTo_79 rfl rfl ?_
      refine r_iload_n 1 d_M_slipTo_80 rfl rfl ?_
      refine r_callVi (c_M_kindOf hA hl _ hat) lk_M_118 (by first | with_reducible assumption | rfl) d_M_slipTo_81 rfl rfl (Nat.le_of_ble_eq_true rfl) (by decide) ?_
      refine r_iconst 5 d_M_slipTo_84 rfl ?_
      refine r_icmp_eq d_M_slipTo_85 (fun h85 => ?_) (fun h85 => ?_)
      · refine r_iload 4 d_M_slipTo_105 rfl ?_
        refine r_goto d_M_slipTo_107 ?_
        refine r_iret .int d_M_slipTo_112 rfl rfl ?_
        refine ⟨?_, rfl⟩
        first
          | rw [if_pos (Or.inl h85)]
          | rw [if_pos (Or.inr h102)]
          | rw [if_neg (fun z => z.elim h85 (fun y => y h102))]
      · refine r_aload_n 0 d_M_slipTo_88 rfl rfl ?_
        refine r_iload_n 1 d_M_slipTo_89 rfl rfl ?_
        refine r_iload 4 d_M_slipTo_90 rfl ?_
        refine r_iload_n 3 d_M_slipTo_92 rfl rfl ?_
        refine r_callVi (c_M_feelOf hA hl hb36 _ _ hat hO) lk_M_145 (by first | with_reducible assumption | rfl) d_M_slipTo_93 rfl rfl (Nat.le_of_ble_eq_true rfl) (by decide) ?_
        refine r_aload_n 0 d_M_slipTo_96 rfl rfl ?_
        refine r_getR fl_M_13 (by first | with_reducible assumption | rfl) rfl d_M_slipTo_97 ?_
        refine r_iconst 2 d_M_slipTo_100 rfl ?_
        refine r_ialdN (j := 2) (by first | with_reducible assumption | rfl) (by first | with_reducible assumption | omega | decide | assumption) d_M_slipTo_101 ?_
        refine r_icmp_lt d_M_slipTo_102 (fun h102 => ?_) (fun h102 => ?_)
        · refine r_bipush (-3) d_M_slipTo_110 (by decide) ?_
          refine r_iret .int d_M_slipTo_112 rfl rfl ?_
          refine ⟨?_, rfl⟩
          first
            | rw [if_pos (Or.inl h85)]
            | rw [if_pos (Or.inr h102)]
            | rw [if_neg (fun z => z.elim h85 (fun y => y h102))]
        · refine r_iload 4 d_M_slipTo_105 rfl ?_
          refine r_goto d_M_slipTo_107 ?_
          refine r_iret .int d_M_slipTo_112 rfl rfl ?_
          refine ⟨?_, rfl⟩
          first
            | rw [if_pos (Or.inl h85)]
            | rw [if_pos (Or.inr h102)]
            | rw [if_neg (fun z => z.elim h85 (fun y => y h102))]
    · have hli : i < 36 := n_lt (a := 36) h16 rfl rfl (by decide) (by omega)
      have hb36 : b < 36 := by have := hb.1.1; omega
      refine r_lload 5 d_M_slipTo_19 rfl ?_
      refine r_iload 7 d_M_slipTo_21 rfl ?_
      refine r_lshr d_M_slipTo_23 ?_
      refine r_lconst 1 d_M_slipTo_24 rfl ?_
      refine r_land d_M_slipTo_25 ?_
      refine r_lconst 1 d_M_slipTo_26 rfl ?_
      refine r_lcmp d_M_slipTo_27 ?_
      refine r_if_ne d_M_slipTo_28 (fun h28 => ?_) (fun h28 => ?_)
      · first | refine r_iincN 7 [_, _, _, _, _, _, _, _] d_M_slipTo_73 (by decide) rfl rfl ?_ | refine r_iinc 7 [_, _, _, _, _, _, _, _] (1) d_M_slipTo_73 (by decide) (by decide) rfl rfl ?_
        refine r_goto d_M_slipTo_76 ?_
        refine hk _ hli ?_
        have hb1 := hb.1.1
        first
          | (have hn28 : ¬ tieB p i = true := fun y => h28 (of_decide_eq_true y)
             refine Or.inr ⟨b, rfl, ⟨Nat.lt_succ_of_lt hb1, hb.1.2⟩, fun q hq => ?_⟩
             rcases Nat.lt_or_ge q i with z | z
             · exact hb.2 q ⟨z, hq.2⟩
             · have e0 : q = i := Nat.le_antisymm (Nat.le_of_lt_succ hq.1) z
               rw [e0] at hq
               exact absurd hq.2 hn28)
          | (have y61 : feelS (kM (μ.1 83) A l) (aM (μ.1 83) A l) (fM (μ.1 83) A l i) t ≤ feelS (kM (μ.1 83) A l) (aM (μ.1 83) A l) (fM (μ.1 83) A l b) t := h61
             refine Or.inr ⟨b, rfl, ⟨Nat.lt_succ_of_lt hb1, hb.1.2⟩, fun q hq => ?_⟩
             rcases Nat.lt_or_ge q i with z | z
             · exact hb.2 q ⟨z, hq.2⟩
             · have e0 : q = i := Nat.le_antisymm (Nat.le_of_lt_succ hq.1) z
               subst e0
               rcases Int32.lt_or_eq_of_le y61 with y | y
               · exact Or.inl y
               · exact Or.inr ⟨y, Nat.le_of_lt hb1⟩)
          | (have y61 : feelS (kM (μ.1 83) A l) (aM (μ.1 83) A l) (fM (μ.1 83) A l b) t < feelS (kM (μ.1 83) A l) (aM (μ.1 83) A l) (fM (μ.1 83) A l i) t := Int32.not_le.mp h61
             refine Or.inr ⟨i, rfl, ⟨Nat.lt_succ_self i, decide_eq_true h28⟩, fun q hq => ?_⟩
             rcases Nat.lt_or_ge q i with z | z
             · refine Or.inl ?_
               show feelS (kM (μ.1 83) A l) (aM (μ.1 83) A l) (fM (μ.1 83) A l q) t < feelS (kM (μ.1 83) A l) (aM (μ.1 83) A l) (fM (μ.1 83) A l i) t
               rcases hb.2 q ⟨z, hq.2⟩ with hz | hz
               · exact Int32.lt_trans hz y61
               · have e1 : feelS (kM (μ.1 83) A l) (aM (μ.1 83) A l) (fM (μ.1 83) A l q) t = feelS (kM (μ.1 83) A l) (aM (μ.1 83) A l) (fM (μ.1 83) A l b) t := hz.1
                 rw [e1]
                 exact y61
             · have e0 : q = i := Nat.le_antisymm (Nat.le_of_lt_succ hq.1) z
               subst e0
               exact Or.inr ⟨rfl, Nat.le_refl _⟩)
      · refine r_iload 4 d_M_slipTo_31 rfl ?_
        refine r_if_lt d_M_slipTo_33 (fun h33 => absurd h33 (nI_pos (by have := hb.1.1; omega))) (fun h33 => ?_)
        refine r_aload_n 0 d_M_slipTo_36 rfl rfl ?_
        refine r_iload_n 1 d_M_slipTo_37 rfl rfl ?_
        refine r_iload 7 d_M_slipTo_38 rfl ?_
        refine r_iload_n 3 d_M_slipTo_40 rfl rfl ?_
        refine r_callVi (c_M_feelOf hA hl hli _ _ hat hO) lk_M_145 (by first | with_reducible assumption | rfl) d_M_slipTo_41 rfl rfl (Nat.le_of_ble_eq_true rfl) (by decide) ?_
        refine r_aload_n 0 d_M_slipTo_44 rfl rfl ?_
        refine r_iload_n 1 d_M_slipTo_45 rfl rfl ?_
        refine r_iload 4 d_M_slipTo_46 rfl ?_
        refine r_if_ge d_M_slipTo_48 (fun h48 => ?_) (fun h48 => absurd (nI_pos' (by have := hb.1.1; omega)) h48)
        refine r_iload 4 d_M_slipTo_55 rfl ?_
        refine r_iload_n 3 d_M_slipTo_57 rfl rfl ?_
        refine r_callVi (c_M_feelOf hA hl hb36 _ _ hat hO) lk_M_145 (by first | with_reducible assumption | rfl) d_M_slipTo_58 rfl rfl (Nat.le_of_ble_eq_true rfl) (by decide) ?_
        refine r_icmp_le d_M_slipTo_61 (fun h61 => ?_) (fun h61 => ?_)
        · refine r_iload 4 d_M_slipTo_69 rfl ?_
          refine r_istore 4 [_, _, _, _, _, _, _, _] d_M_slipTo_71 (by decide) rfl ?_
          first | refine r_iincN 7 [_, _, _, _, _, _, _, _] d_M_slipTo_73 (by decide) rfl rfl ?_ | refine r_iinc 7 [_, _, _, _, _, _, _, _] (1) d_M_slipTo_73 (by decide) (by decide) rfl rfl ?_
          refine r_goto d_M_slipTo_76 ?_
          refine hk _ hli ?_
          have hb1 := hb.1.1
          first
            | (have hn28 : ¬ tieB p i = true := fun y => h28 (of_decide_eq_true y)
               refine Or.inr ⟨b, rfl, ⟨Nat.lt_succ_of_lt hb1, hb.1.2⟩, fun q hq => ?_⟩
               rcases Nat.lt_or_ge q i with z | z
               · exact hb.2 q ⟨z, hq.2⟩
               · have e0 : q = i := Nat.le_antisymm (Nat.le_of_lt_succ hq.1) z
                 rw [e0] at hq
                 exact absurd hq.2 hn28)
            | (have y61 : feelS (kM (μ.1 83) A l) (aM (μ.1 83) A l) (fM (μ.1 83) A l i) t ≤ feelS (kM (μ.1 83) A l) (aM (μ.1 83) A l) (fM (μ.1 83) A l b) t := h61
               refine Or.inr ⟨b, rfl, ⟨Nat.lt_succ_of_lt hb1, hb.1.2⟩, fun q hq => ?_⟩
               rcases Nat.lt_or_ge q i with z | z
               · exact hb.2 q ⟨z, hq.2⟩
               · have e0 : q = i := Nat.le_antisymm (Nat.le_of_lt_succ hq.1) z
                 subst e0
                 rcases Int32.lt_or_eq_of_le y61 with y | y
                 · exact Or.inl y
                 · exact Or.inr ⟨y, Nat.le_of_lt hb1⟩)
            | (have y61 : feelS (kM (μ.1 83) A l) (aM (μ.1 83) A l) (fM (μ.1 83) A l b) t < feelS (kM (μ.1 83) A l) (aM (μ.1 83) A l) (fM (μ.1 83) A l i) t := Int32.not_le.mp h61
               refine Or.inr ⟨i, rfl, ⟨Nat.lt_succ_self i, decide_eq_true h28⟩, fun q hq => ?_⟩
               rcases Nat.lt_or_ge q i with z | z
               · refine Or.inl ?_
                 show feelS (kM (μ.1 83) A l) (aM (μ.1 83) A l) (fM (μ.1 83) A l q) t < feelS (kM (μ.1 83) A l) (aM (μ.1 83) A l) (fM (μ.1 83) A l i) t
                 rcases hb.2 q ⟨z, hq.2⟩ with hz | hz
                 · exact Int32.lt_trans hz y61
                 · have e1 : feelS (kM (μ.1 83) A l) (aM (μ.1 83) A l) (fM (μ.1 83) A l q) t = feelS (kM (μ.1 83) A l) (aM (μ.1 83) A l) (fM (μ.1 83) A l b) t := hz.1
                   rw [e1]
                   exact y61
               · have e0 : q = i := Nat.le_antisymm (Nat.le_of_lt_succ hq.1) z
                 subst e0
                 exact Or.inr ⟨rfl, Nat.le_refl _⟩)
        · refine r_iload 7 d_M_slipTo_64 rfl ?_
          refine r_goto d_M_slipTo_66 ?_
          refine r_istore 4 [_, _, _, _, _, _, _, _] d_M_slipTo_71 (by decide) rfl ?_
          first | refine r_iincN 7 [_, _, _, _, _, _, _, _] d_M_slipTo_73 (by decide) rfl rfl ?_ | refine r_iinc 7 [_, _, _, _, _, _, _, _] (1) d_M_slipTo_73 (by decide) (by decide) rfl rfl ?_
          refine r_goto d_M_slipTo_76 ?_
          refine hk _ hli ?_
          have hb1 := hb.1.1
          first
            | (have hn28 : ¬ tieB p i = true := fun y => h28 (of_decide_eq_true y)
               refine Or.inr ⟨b, rfl, ⟨Nat.lt_succ_of_lt hb1, hb.1.2⟩, fun q hq => ?_⟩
               rcases Nat.lt_or_ge q i with z | z
               · exact hb.2 q ⟨z, hq.2⟩
               · have e0 : q = i := Nat.le_antisymm (Nat.le_of_lt_succ hq.1) z
                 rw [e0] at hq
                 exact absurd hq.2 hn28)
            | (have y61 : feelS (kM (μ.1 83) A l) (aM (μ.1 83) A l) (fM (μ.1 83) A l i) t ≤ feelS (kM (μ.1 83) A l) (aM (μ.1 83) A l) (fM (μ.1 83) A l b) t := h61
               refine Or.inr ⟨b, rfl, ⟨Nat.lt_succ_of_lt hb1, hb.1.2⟩, fun q hq => ?_⟩
               rcases Nat.lt_or_ge q i with z | z
               · exact hb.2 q ⟨z, hq.2⟩
               · have e0 : q = i := Nat.le_antisymm (Nat.le_of_lt_succ hq.1) z
                 subst e0
                 rcases Int32.lt_or_eq_of_le y61 with y | y
                 · exact Or.inl y
                 · exact Or.inr ⟨y, Nat.le_of_lt hb1⟩)
            | (have y61 : feelS (kM (μ.1 83) A l) (aM (μ.1 83) A l) (fM (μ.1 83) A l b) t < feelS (kM (μ.1 83) A l) (aM (μ.1 83) A l) (fM (μ.1 83) A l i) t := Int32.not_le.mp h61
               refine Or.inr ⟨i, rfl, ⟨Nat.lt_succ_self i, decide_eq_true h28⟩, fun q hq => ?_⟩
               rcases Nat.lt_or_ge q i with z | z
               · refine Or.inl ?_
                 show feelS (kM (μ.1 83) A l) (aM (μ.1 83) A l) (fM (μ.1 83) A l q) t < feelS (kM (μ.1 83) A l) (aM (μ.1 83) A l) (fM (μ.1 83) A l i) t
                 rcases hb.2 q ⟨z, hq.2⟩ with hz | hz
                 · exact Int32.lt_trans hz y61
                 · have e1 : feelS (kM (μ.1 83) A l) (aM (μ.1 83) A l) (fM (μ.1 83) A l q) t = feelS (kM (μ.1 83) A l) (aM (μ.1 83) A l) (fM (μ.1 83) A l b) t := hz.1
                   rw [e1]
                   exact y61
               · have e0 : q = i := Nat.le_antisymm (Nat.le_of_lt_succ hq.1) z
                 subst e0
                 exact Or.inr ⟨rfl, Nat.le_refl _⟩)
def saM (μ : Me) (q : Int32 × Int32 × Int32 × Int32) : Me := uI (uI (uI μ 82 6 q.2.2.2) 82 5 q.2.1) 82 7 q.2.2.1
theorem uI_cov {μ : Me} {c i j : Nat} {a b d : Int32} (h : i ≠ j) : uI (uI (uI μ c i a) c j b) c i d = uI (uI μ c i d) c j b := by
  refine Me_ext (fun c' x => ?_) (fun _ _ => rfl)
  by_cases h1 : c' = c
  · subst h1
    by_cases hi : x = i
    · subst hi; rw [uI_at, uI_off h, uI_at]
    · rw [uI_off hi]
      by_cases hj : x = j
      · subst hj; rw [uI_at, uI_at]
      · rw [uI_off hj, uI_off hj, uI_off hi, uI_off hi]
  · rw [uI_ne h1, uI_ne h1, uI_ne h1, uI_ne h1, uI_ne h1]
theorem saM_ne {μ : Me} {q : Int32 × Int32 × Int32 × Int32} {c : Nat} (h : c ≠ 82) : (saM μ q).1 c = μ.1 c := by rw [saM, uI_ne h, uI_ne h, uI_ne h]
theorem saM_o {μ : Me} {q : Int32 × Int32 × Int32 × Int32} {j : Nat} (h5 : j ≠ 5) (h6 : j ≠ 6) (h7 : j ≠ 7) : (saM μ q).1 82 j = μ.1 82 j := by rw [saM, uI_off h7, uI_off h5, uI_off h6]
theorem saM_5 {μ : Me} {q : Int32 × Int32 × Int32 × Int32} : (saM μ q).1 82 5 = q.2.1 := by rw [saM, uI_off (by decide), uI_at]
theorem saM_6 {μ : Me} {q : Int32 × Int32 × Int32 × Int32} : (saM μ q).1 82 6 = q.2.2.2 := by rw [saM, uI_off (by decide), uI_off (by decide), uI_at]
theorem saM_7 {μ : Me} {q : Int32 × Int32 × Int32 × Int32} : (saM μ q).1 82 7 = q.2.2.1 := by rw [saM, uI_at]
def fd (g : Nat → Int32) (A l p : Nat) (t : Int32) (w : Nat → Int32) : Int32 × Int32 × Int32 × Int32 := findS (kM g A l) (aM g A l) (fM g A l) p t (w 1) (w 2)
theorem w3_ge {x : Int32} : 0 ≤ w3 x ↔ 0 ≤ x := by
  unfold w3
  split
  · rfl
  · rename_i h; exact ⟨fun z => absurd z (by decide), fun z => absurd z h⟩
theorem fd_0 {k a : Int32} {f : Nat → Int32} {p : Nat} {t g s : Int32} (h : ¬ onceB k a (f p) t g = 0) : findS k a f p t g s = (prodS p, 0, takesS (feelS k a (f p) t), -9) := by rw [findS, if_pos h]
theorem fd_1 {k a : Int32} {f : Nat → Int32} {p q : Nat} {t g s : Int32} (h : onceB k a (f p) t g = 0) (hq : q < 36) (e : wayS k a f p t g = nI q) : findS k a f p t g s = (prodS p, 1, takesS (feelS k a (f q) (t - stepS k)) + stepS k, nI q) := by
  rw [findS, if_neg (fun z => z h), e, if_pos (nI_pos' (by omega)), cl36 hq (by decide)]
theorem fd_2 {k a : Int32} {f : Nat → Int32} {p q : Nat} {t g s : Int32} (h : onceB k a (f p) t g = 0) (hw : ¬ 0 ≤ wayS k a f p t g) (hq : q < 36) (e : (ftS k a f p t 4).1 = nI q) : findS k a f p t g s = if k = 5 ∨ ¬ feelS k a (f q) t < s then (prodS q, 2, t, nI q) else (-9, 3, t, -9) := by
  rw [findS, if_neg (fun z => z h), if_neg hw, e, cl36 hq (by decide)]
  by_cases z : k = 5 ∨ ¬ feelS k a (f q) t < s
  · rw [if_pos z, if_pos ⟨nI_pos' (by omega), z⟩]
  · rw [if_neg z, if_neg (fun y => z y.2)]
theorem way_s9 {k a : Int32} {f : Nat → Int32} {p : Nat} {t g : Int32} (h : 0 ≤ wayS k a f p t g) : s99 k = stepS k := by
  rcases s99_or k with ⟨e1, -⟩ | ⟨-, e2⟩
  · rw [wayS, if_pos (Or.inl e1)] at h; exact absurd h (by decide)
  · exact e2
set_option maxHeartbeats 400000 in
theorem c_M_says {A l p : Nat} (hA : A ≤ 442) (hl : l < 4) (hp : p < 36) (t : Int32) (ht : 1 ≤ t ∧ t ≤ 9) (μ : Me) (hat : μ.1 82 1 = nI A) (hO : LO (μ.1 83) A l) : CtV m_M_says 5 [.ref 82, .int (nI l), .int (nI p), .int t] μ (saM μ (fd (μ.1 83) A l p t (μ.1 84))) := by
  refine Ct.of (ls := [.ref 82, .int (nI l), .int (nI p), .int t, flr, flr]) rfl (Nat.le_of_ble_eq_true rfl) rfl (fun X => ?_)
  have c1 := c_M_isAtOnce hA hl hp t (uI μ 82 6 (-9)) hat hO
  have c3 := c_M_wayFrom hA hl hp t ht (uI μ 82 6 (-9)) hat hO
  have c4 := c_M_slipTo hA hl hp t (uI μ 82 6 (-9)) hat hO
  have e83 : (uI μ 82 6 (-9)).1 83 = μ.1 83 := rfl
  have e84 : (uI μ 82 6 (-9)).1 84 = μ.1 84 := rfl
  rw [e83, e84] at c1 c3 c4
  by_cases hon : onceB (kM (μ.1 83) A l) (aM (μ.1 83) A l) (fM (μ.1 83) A l p) t (μ.1 84 1) = 0
  · by_cases hw : 0 ≤ wayS (kM (μ.1 83) A l) (aM (μ.1 83) A l) (fM (μ.1 83) A l) p t (μ.1 84 1)
    · obtain ⟨q, hq, eq⟩ := way_or hp rfl (Int32.not_lt.mpr hw)
      have e9 := way_s9 hw
      rw [eq, w3, if_pos (nI_pos' (by omega))] at c3
      rw [fd, fd_1 hon hq eq]
      refine r_aload_n 0 d_M_says_0 rfl rfl ?_
      refine r_bipush (-9) d_M_says_1 (by decide) ?_
      refine r_putI fp_M_158 (by first | with_reducible assumption | rfl) rfl d_M_says_3 ?_
      refine r_aload_n 0 d_M_says_6 rfl rfl ?_
      refine r_iload_n 1 d_M_says_7 rfl rfl ?_
      refine r_iload_n 2 d_M_says_8 rfl rfl ?_
      refine r_iload_n 3 d_M_says_9 rfl rfl ?_
      refine r_callVi c1 lk_M_155 (by first | with_reducible assumption | rfl) d_M_says_10 rfl rfl (Nat.le_of_ble_eq_true rfl) (by decide) ?_
      refine r_if_eq d_M_says_13 (fun h13 => ?_) (fun h13 => absurd hon h13)
      refine r_aload_n 0 d_M_says_36 rfl rfl ?_
      refine r_iload_n 1 d_M_says_37 rfl rfl ?_
      refine r_iload_n 2 d_M_says_38 rfl rfl ?_
      refine r_iload_n 3 d_M_says_39 rfl rfl ?_
      refine r_callVi c3 lk_M_167 (by first | with_reducible assumption | rfl) d_M_says_40 rfl rfl (Nat.le_of_ble_eq_true rfl) (by decide) ?_
      refine r_istore 4 [_, _, _, _, _, _] d_M_says_43 (by decide) rfl ?_
      refine r_iload 4 d_M_says_45 rfl ?_
      refine r_if_lt d_M_says_47 (fun h47 => absurd h47 (nI_pos (by omega))) (fun h47 => ?_)
      refine r_aload_n 0 d_M_says_50 rfl rfl ?_
      refine r_iconst 1 d_M_says_51 rfl ?_
      refine r_putI fp_M_161 (by first | with_reducible assumption | rfl) rfl d_M_says_52 ?_
      refine r_aload_n 0 d_M_says_55 rfl rfl ?_
      refine r_iload 4 d_M_says_56 rfl ?_
      refine r_putI fp_M_158 (by first | with_reducible assumption | rfl) rfl d_M_says_58 ?_
      refine r_aload_n 0 d_M_says_61 rfl rfl ?_
      refine r_aload_n 0 d_M_says_62 rfl rfl ?_
      refine r_iload_n 1 d_M_says_63 rfl rfl ?_
      refine r_iload 4 d_M_says_64 rfl ?_
      refine r_iload_n 3 d_M_says_66 rfl rfl ?_
      refine r_aload_n 0 d_M_says_67 rfl rfl ?_
      refine r_iload_n 1 d_M_says_68 rfl rfl ?_
      refine r_callVi (c_M_stepOf (A := A) hA hl _ hat) lk_M_152 (by first | with_reducible assumption | rfl) d_M_says_69 rfl rfl (Nat.le_of_ble_eq_true rfl) (by decide) ?_
      refine r_isub d_M_says_72 ?_
      refine r_callVi (c_M_feelOf (A := A) hA hl hq _ _ hat hO) lk_M_145 (by first | with_reducible assumption | rfl) d_M_says_73 rfl rfl (Nat.le_of_ble_eq_true rfl) (by decide) ?_
      refine r_callSi (c_M_takesBy _ _) lk_M_149 d_M_says_76 rfl rfl (Nat.le_of_ble_eq_true rfl) (by decide) ?_
      refine r_aload_n 0 d_M_says_79 rfl rfl ?_
      refine r_iload_n 1 d_M_says_80 rfl rfl ?_
      refine r_callVi (c_M_stepOf (A := A) hA hl _ hat) lk_M_152 (by first | with_reducible assumption | rfl) d_M_says_81 rfl rfl (Nat.le_of_ble_eq_true rfl) (by decide) ?_
      refine r_iadd d_M_says_84 ?_
      refine r_putI fp_M_164 (by first | with_reducible assumption | rfl) rfl d_M_says_85 ?_
      refine r_ret d_M_says_88 rfl ?_
      refine ⟨rfl, ?_⟩
      rw [saM, uI_cov (by decide)]
      show uI _ 82 7 (takesS (feelS (kM (μ.1 83) A l) (aM (μ.1 83) A l) (fM (μ.1 83) A l q) (t - s99 (kM (μ.1 83) A l))) + s99 (kM (μ.1 83) A l)) = _
      rw [e9]
    · have hw3 : w3 (wayS (kM (μ.1 83) A l) (aM (μ.1 83) A l) (fM (μ.1 83) A l) p t (μ.1 84 1)) = -3 := by rw [w3, if_neg hw]
      rw [hw3] at c3
      obtain ⟨q, hq, eq, -⟩ := ft_ok (k := kM (μ.1 83) A l) (a := aM (μ.1 83) A l) (f := fM (μ.1 83) A l) (p := p) (t := t) hp (hO.feel _ _)
      rw [slS, eq, cl36 hq (by decide)] at c4
      rw [fd, fd_2 hon hw hq eq]
      by_cases hs : kM (μ.1 83) A l = 5 ∨ ¬ feelS (kM (μ.1 83) A l) (aM (μ.1 83) A l) (fM (μ.1 83) A l q) t < μ.1 84 2
      · rw [if_pos hs] at c4
        rw [if_pos hs]
        refine r_aload_n 0 d_M_says_0 rfl rfl ?_
        refine r_bipush (-9) d_M_says_1 (by decide) ?_
        refine r_putI fp_M_158 (by first | with_reducible assumption | rfl) rfl d_M_says_3 ?_
        refine r_aload_n 0 d_M_says_6 rfl rfl ?_
        refine r_iload_n 1 d_M_says_7 rfl rfl ?_
        refine r_iload_n 2 d_M_says_8 rfl rfl ?_
        refine r_iload_n 3 d_M_says_9 rfl rfl ?_
        refine r_callVi c1 lk_M_155 (by first | with_reducible assumption | rfl) d_M_says_10 rfl rfl (Nat.le_of_ble_eq_true rfl) (by decide) ?_
        refine r_if_eq d_M_says_13 (fun h13 => ?_) (fun h13 => absurd hon h13)
        refine r_aload_n 0 d_M_says_36 rfl rfl ?_
        refine r_iload_n 1 d_M_says_37 rfl rfl ?_
        refine r_iload_n 2 d_M_says_38 rfl rfl ?_
        refine r_iload_n 3 d_M_says_39 rfl rfl ?_
        refine r_callVi c3 lk_M_167 (by first | with_reducible assumption | rfl) d_M_says_40 rfl rfl (Nat.le_of_ble_eq_true rfl) (by decide) ?_
        refine r_istore 4 [_, _, _, _, _, _] d_M_says_43 (by decide) rfl ?_
        refine r_iload 4 d_M_says_45 rfl ?_
        refine r_if_lt d_M_says_47 (fun h47 => ?_) (fun h47 => absurd (by decide) h47)
        refine r_aload_n 0 d_M_says_89 rfl rfl ?_
        refine r_iload_n 1 d_M_says_90 rfl rfl ?_
        refine r_iload_n 2 d_M_says_91 rfl rfl ?_
        refine r_iload_n 3 d_M_says_92 rfl rfl ?_
        refine r_callVi c4 lk_M_170 (by first | with_reducible assumption | rfl) d_M_says_93 rfl rfl (Nat.le_of_ble_eq_true rfl) (by decide) ?_
        refine r_istore 5 [_, _, _, _, _, _] d_M_says_96 (by decide) rfl ?_
        refine r_aload_n 0 d_M_says_98 rfl rfl ?_
        refine r_iload 5 d_M_says_99 rfl ?_
        refine r_if_lt d_M_says_101 (fun h101 => absurd h101 (nI_pos (by omega))) (fun h101 => ?_)
        refine r_iconst 2 d_M_says_104 rfl ?_
        refine r_goto d_M_says_105 ?_
        refine r_putI fp_M_161 (by first | with_reducible assumption | rfl) rfl d_M_says_109 ?_
        refine r_aload_n 0 d_M_says_112 rfl rfl ?_
        refine r_iload 5 d_M_says_113 rfl ?_
        refine r_if_lt d_M_says_115 (fun h115 => absurd h115 (nI_pos (by omega))) (fun h115 => ?_)
        refine r_iload 5 d_M_says_118 rfl ?_
        refine r_goto d_M_says_120 ?_
        refine r_putI fp_M_158 (by first | with_reducible assumption | rfl) rfl d_M_says_125 ?_
        refine r_aload_n 0 d_M_says_128 rfl rfl ?_
        refine r_iload_n 3 d_M_says_129 rfl rfl ?_
        refine r_putI fp_M_164 (by first | with_reducible assumption | rfl) rfl d_M_says_130 ?_
        refine r_ret d_M_says_133 rfl ?_
        exact ⟨rfl, by rw [saM, uI_cov (by decide)]⟩
      · rw [if_neg hs] at c4
        rw [if_neg hs]
        refine r_aload_n 0 d_M_says_0 rfl rfl ?_
        refine r_bipush (-9) d_M_says_1 (by decide) ?_
        refine r_putI fp_M_158 (by first | with_reducible assumption | rfl) rfl d_M_says_3 ?_
        refine r_aload_n 0 d_M_says_6 rfl rfl ?_
        refine r_iload_n 1 d_M_says_7 rfl rfl ?_
        refine r_iload_n 2 d_M_says_8 rfl rfl ?_
        refine r_iload_n 3 d_M_says_9 rfl rfl ?_
        refine r_callVi c1 lk_M_155 (by first | with_reducible assumption | rfl) d_M_says_10 rfl rfl (Nat.le_of_ble_eq_true rfl) (by decide) ?_
        refine r_if_eq d_M_says_13 (fun h13 => ?_) (fun h13 => absurd hon h13)
        refine r_aload_n 0 d_M_says_36 rfl rfl ?_
        refine r_iload_n 1 d_M_says_37 rfl rfl ?_
        refine r_iload_n 2 d_M_says_38 rfl rfl ?_
        refine r_iload_n 3 d_M_says_39 rfl rfl ?_
        refine r_callVi c3 lk_M_167 (by first | with_reducible assumption | rfl) d_M_says_40 rfl rfl (Nat.le_of_ble_eq_true rfl) (by decide) ?_
        refine r_istore 4 [_, _, _, _, _, _] d_M_says_43 (by decide) rfl ?_
        refine r_iload 4 d_M_says_45 rfl ?_
        refine r_if_lt d_M_says_47 (fun h47 => ?_) (fun h47 => absurd (by decide) h47)
        refine r_aload_n 0 d_M_says_89 rfl rfl ?_
        refine r_iload_n 1 d_M_says_90 rfl rfl ?_
        refine r_iload_n 2 d_M_says_91 rfl rfl ?_
        refine r_iload_n 3 d_M_says_92 rfl rfl ?_
        refine r_callVi c4 lk_M_170 (by first | with_reducible assumption | rfl) d_M_says_93 rfl rfl (Nat.le_of_ble_eq_true rfl) (by decide) ?_
        refine r_istore 5 [_, _, _, _, _, _] d_M_says_96 (by decide) rfl ?_
        refine r_aload_n 0 d_M_says_98 rfl rfl ?_
        refine r_iload 5 d_M_says_99 rfl ?_
        refine r_if_lt d_M_says_101 (fun h101 => ?_) (fun h101 => absurd (by decide) h101)
        refine r_iconst 3 d_M_says_108 rfl ?_
        refine r_putI fp_M_161 (by first | with_reducible assumption | rfl) rfl d_M_says_109 ?_
        refine r_aload_n 0 d_M_says_112 rfl rfl ?_
        refine r_iload 5 d_M_says_113 rfl ?_
        refine r_if_lt d_M_says_115 (fun h115 => ?_) (fun h115 => absurd (by decide) h115)
        refine r_bipush (-9) d_M_says_123 (by decide) ?_
        refine r_putI fp_M_158 (by first | with_reducible assumption | rfl) rfl d_M_says_125 ?_
        refine r_aload_n 0 d_M_says_128 rfl rfl ?_
        refine r_iload_n 3 d_M_says_129 rfl rfl ?_
        refine r_putI fp_M_164 (by first | with_reducible assumption | rfl) rfl d_M_says_130 ?_
        refine r_ret d_M_says_133 rfl ?_
        exact ⟨rfl, by rw [saM, uI_cov (by decide)]⟩
  · rw [fd, fd_0 hon]
    refine r_aload_n 0 d_M_says_0 rfl rfl ?_
    refine r_bipush (-9) d_M_says_1 (by decide) ?_
    refine r_putI fp_M_158 (by first | with_reducible assumption | rfl) rfl d_M_says_3 ?_
    refine r_aload_n 0 d_M_says_6 rfl rfl ?_
    refine r_iload_n 1 d_M_says_7 rfl rfl ?_
    refine r_iload_n 2 d_M_says_8 rfl rfl ?_
    refine r_iload_n 3 d_M_says_9 rfl rfl ?_
    refine r_callVi c1 lk_M_155 (by first | with_reducible assumption | rfl) d_M_says_10 rfl rfl (Nat.le_of_ble_eq_true rfl) (by decide) ?_
    refine r_if_eq d_M_says_13 (fun h13 => absurd h13 hon) (fun h13 => ?_)
    refine r_aload_n 0 d_M_says_16 rfl rfl ?_
    refine r_iconst 0 d_M_says_17 rfl ?_
    refine r_putI fp_M_161 (by first | with_reducible assumption | rfl) rfl d_M_says_18 ?_
    refine r_aload_n 0 d_M_says_21 rfl rfl ?_
    refine r_aload_n 0 d_M_says_22 rfl rfl ?_
    refine r_iload_n 1 d_M_says_23 rfl rfl ?_
    refine r_iload_n 2 d_M_says_24 rfl rfl ?_
    refine r_iload_n 3 d_M_says_25 rfl rfl ?_
    refine r_callVi (c_M_feelOf (A := A) hA hl hp _ _ hat hO) lk_M_145 (by first | with_reducible assumption | rfl) d_M_says_26 rfl rfl (Nat.le_of_ble_eq_true rfl) (by decide) ?_
    refine r_callSi (c_M_takesBy _ _) lk_M_149 d_M_says_29 rfl rfl (Nat.le_of_ble_eq_true rfl) (by decide) ?_
    refine r_putI fp_M_164 (by first | with_reducible assumption | rfl) rfl d_M_says_32 ?_
    refine r_ret d_M_says_35 rfl ?_
    exact ⟨rfl, rfl⟩
theorem fd_1of {k a : Int32} {f : Nat → Int32} {p : Nat} {t g s : Int32} : (findS k a f p t g s).1 = if (findS k a f p t g s).2.1 = 3 then -9 else if (findS k a f p t g s).2.1 = 2 then prodS (findS k a f p t g s).2.2.2.toNatClampNeg else prodS p := by
  unfold findS
  split
  · rfl
  · split
    · rfl
    · split
      · rfl
      · rfl
set_option maxHeartbeats 400000 in
theorem c_M_said {A l p : Nat} (hp : p < 36) (t : Int32) (g w : Nat → Int32) (ν : Me) (hh5 : ν.1 82 5 = (fd g A l p t w).2.1) (hh6 : ν.1 82 6 = (fd g A l p t w).2.2.2) : CtI m_M_said 2 [.ref 82, .int (nI p)] ν (fd g A l p t w).1 ν := by
  refine Ct.of (ls := [.ref 82, .int (nI p)]) rfl (Nat.le_of_ble_eq_true rfl) rfl (fun X => ?_)
  have e1 : (fd g A l p t w).1 = if (fd g A l p t w).2.1 = 3 then -9 else if (fd g A l p t w).2.1 = 2 then prodS (fd g A l p t w).2.2.2.toNatClampNeg else prodS p := fd_1of
  rw [e1]
  by_cases h2 : (fd g A l p t w).2.1 = 2
  · obtain ⟨q, hq, eq⟩ := find_by hp h2
    have eq' : (fd g A l p t w).2.2.2 = nI q := eq
    rw [h2, if_neg (by decide), if_pos rfl, eq', cl36 hq (by decide)]
    refine r_aload_n 0 d_M_said_0 rfl rfl ?_
    refine r_getI fl_M_161 (by first | with_reducible assumption | rfl) rfl d_M_said_1 ?_
    refine r_iconst 3 d_M_said_4 rfl ?_
    rw [hh5, h2]
    refine r_icmp_ne d_M_said_5 (fun h5 => ?_) (fun h5 => absurd h5 (by decide))
    refine r_aload_n 0 d_M_said_13 rfl rfl ?_
    refine r_getI fl_M_161 (by first | with_reducible assumption | rfl) rfl d_M_said_14 ?_
    refine r_iconst 2 d_M_said_17 rfl ?_
    rw [hh5, h2]
    refine r_icmp_ne d_M_said_18 (fun h18 => absurd rfl h18) (fun h18 => ?_)
    refine r_aload_n 0 d_M_said_21 rfl rfl ?_
    refine r_getI fl_M_158 (by first | with_reducible assumption | rfl) rfl d_M_said_22 ?_
    rw [hh6, eq']
    refine r_callSi (c_M_product hq _) lk_M_95 d_M_said_25 rfl rfl (Nat.le_of_ble_eq_true rfl) (by decide) ?_
    refine r_goto d_M_said_28 ?_
    refine r_iret .int d_M_said_35 rfl rfl ?_
    exact ⟨rfl, rfl⟩
  · rw [if_neg h2]
    refine r_aload_n 0 d_M_said_0 rfl rfl ?_
    refine r_getI fl_M_161 (by first | with_reducible assumption | rfl) rfl d_M_said_1 ?_
    refine r_iconst 3 d_M_said_4 rfl ?_
    rw [hh5]
    refine r_icmp_ne d_M_said_5 (fun h5 => ?_) (fun h5 => ?_)
    · refine r_aload_n 0 d_M_said_13 rfl rfl ?_
      refine r_getI fl_M_161 (by first | with_reducible assumption | rfl) rfl d_M_said_14 ?_
      refine r_iconst 2 d_M_said_17 rfl ?_
      rw [hh5]
      refine r_icmp_ne d_M_said_18 (fun h18 => ?_) (fun h18 => absurd h18 h2)
      refine r_iload_n 1 d_M_said_31 rfl rfl ?_
      refine r_callSi (c_M_product hp _) lk_M_95 d_M_said_32 rfl rfl (Nat.le_of_ble_eq_true rfl) (by decide) ?_
      refine r_iret .int d_M_said_35 rfl rfl ?_
      refine ⟨?_, rfl⟩
      first
        | rw [if_neg h5]
        | rw [if_pos h5]
    · refine r_bipush (-9) d_M_said_8 (by decide) ?_
      refine r_goto d_M_said_10 ?_
      refine r_iret .int d_M_said_35 rfl rfl ?_
      refine ⟨?_, rfl⟩
      first
        | rw [if_neg h5]
        | rw [if_pos h5]
