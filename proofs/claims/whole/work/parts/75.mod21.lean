/-! items that can't be read, by the reference -/
def ngP (μ : Me) (u : Nat → Nat) (N p : Nat) : Option Value → Me → Prop := fun r μ' => r = none ∧ μ' = TG μ u N 0 p
section Tails
variable (X : Nat × (Nat → Int32)) {μ : Me} {u : Nat → Nat} {N p : Nat} (n w : Int32)
theorem t_187 (a b t : Value) : Wa X m_M_wantItem 4 187 [.ref 82, .int n, .int w, a, b, t] [] (TG μ u N 0 p) (ngP μ u N p) := by
  refine r_aload_n 0 d_M_wantItem_187 rfl rfl ?_
  refine r_getI fl_M_259 (by first | with_reducible assumption | rfl) rfl d_M_wantItem_188 ?_
  rw [tg_r17]
  refine r_if_eq d_M_wantItem_191 (fun h191 => ?_) (fun h191 => absurd rfl h191)
  refine r_ret d_M_wantItem_244 rfl ?_
  exact ⟨rfl, rfl⟩
theorem t_162 (a b t : Value) : Wa X m_M_wantItem 4 162 [.ref 82, .int n, .int w, a, b, t] [] (TG μ u N 0 p) (ngP μ u N p) := by
  refine r_aload_n 0 d_M_wantItem_162 rfl rfl ?_
  refine r_aload_n 0 d_M_wantItem_163 rfl rfl ?_
  refine r_getI fl_M_259 (by first | with_reducible assumption | rfl) rfl d_M_wantItem_164 ?_
  rw [tg_r17]
  refine r_if_eq d_M_wantItem_167 (fun h167 => ?_) (fun h167 => absurd rfl h167)
  refine r_iconst 0 d_M_wantItem_183 rfl ?_
  refine r_putZ fp_M_259 (by first | with_reducible assumption | rfl) rfl (by first | exact Or.inl rfl | exact Or.inr rfl | assumption) d_M_wantItem_184 ?_
  refine Wa.eqM tg_17 ?_
  exact t_187 X n w _ _ _
theorem t_142 (a b t : Value) : Wa X m_M_wantItem 4 142 [.ref 82, .int n, .int w, a, b, t] [] (TG μ u N 0 p) (ngP μ u N p) := by
  refine r_aload_n 0 d_M_wantItem_142 rfl rfl ?_
  refine r_getI fl_M_259 (by first | with_reducible assumption | rfl) rfl d_M_wantItem_143 ?_
  rw [tg_r17]
  refine r_if_eq d_M_wantItem_146 (fun h146 => ?_) (fun h146 => absurd rfl h146)
  refine r_aload_n 0 d_M_wantItem_153 rfl rfl ?_
  refine r_iconst 1 d_M_wantItem_154 rfl ?_
  refine r_bipush (9) d_M_wantItem_155 (by decide) ?_
  refine r_callVi (c_wn_0 1 9) lk_M_276 (by first | with_reducible assumption | rfl) d_M_wantItem_157 rfl rfl (Nat.le_of_ble_eq_true rfl) (by decide) ?_
  refine r_istore 5 [_, _, _, _, _, _] d_M_wantItem_160 (by decide) rfl ?_
  exact t_162 X n w _ _ _
theorem t_109 (a b t : Value) : Wa X m_M_wantItem 4 109 [.ref 82, .int n, .int w, a, b, t] [] (TG μ u N 0 p) (ngP μ u N p) := by
  by_cases h0 : w = 0
  · skip
    refine r_iconst 0 d_M_wantItem_109 rfl ?_
    refine r_istore 5 [_, _, _, _, _, _] d_M_wantItem_110 (by decide) rfl ?_
    refine r_iload_n 2 d_M_wantItem_112 rfl rfl ?_
    refine r_if_ne d_M_wantItem_113 (fun h113 => absurd h0 h113) (fun h113 => ?_)
    refine r_aload_n 0 d_M_wantItem_116 rfl rfl ?_
    refine r_aload_n 0 d_M_wantItem_117 rfl rfl ?_
    refine r_getI fl_M_259 (by first | with_reducible assumption | rfl) rfl d_M_wantItem_118 ?_
    rw [tg_r17]
    refine r_if_eq d_M_wantItem_121 (fun h121 => ?_) (fun h121 => absurd rfl h121)
    refine r_iconst 0 d_M_wantItem_138 rfl ?_
    refine r_putZ fp_M_259 (by first | with_reducible assumption | rfl) rfl (by first | exact Or.inl rfl | exact Or.inr rfl | assumption) d_M_wantItem_139 ?_
    refine Wa.eqM tg_17 ?_
    exact t_142 X n w _ _ _
  · skip
    refine r_iconst 0 d_M_wantItem_109 rfl ?_
    refine r_istore 5 [_, _, _, _, _, _] d_M_wantItem_110 (by decide) rfl ?_
    refine r_iload_n 2 d_M_wantItem_112 rfl rfl ?_
    refine r_if_ne d_M_wantItem_113 (fun h113 => ?_) (fun h113 => absurd h113 h0)
    exact t_162 X n w _ _ _
theorem t_91 (a b t : Value) : Wa X m_M_wantItem 4 91 [.ref 82, .int n, .int w, a, b, t] [] (TG μ u N 0 p) (ngP μ u N p) := by
  by_cases h2 : w = 2
  · skip
    refine r_iload_n 2 d_M_wantItem_91 rfl rfl ?_
    refine r_iconst 2 d_M_wantItem_92 rfl ?_
    refine r_icmp_ne d_M_wantItem_93 (fun h93 => absurd h2 h93) (fun h93 => ?_)
    refine r_iconst 0 d_M_wantItem_96 rfl ?_
    refine r_goto d_M_wantItem_97 ?_
    refine r_istore 4 [_, _, _, _, _, _] d_M_wantItem_107 (by decide) rfl ?_
    exact t_109 X n w _ _ _
  · skip
    refine r_iload_n 2 d_M_wantItem_91 rfl rfl ?_
    refine r_iconst 2 d_M_wantItem_92 rfl ?_
    refine r_icmp_ne d_M_wantItem_93 (fun h93 => ?_) (fun h93 => absurd h93 h2)
    refine r_aload_n 0 d_M_wantItem_100 rfl rfl ?_
    refine r_iconst 2 d_M_wantItem_101 rfl ?_
    refine r_bipush (9) d_M_wantItem_102 (by decide) ?_
    refine r_callVi (c_wn_0 2 9) lk_M_276 (by first | with_reducible assumption | rfl) d_M_wantItem_104 rfl rfl (Nat.le_of_ble_eq_true rfl) (by decide) ?_
    refine r_istore 4 [_, _, _, _, _, _] d_M_wantItem_107 (by decide) rfl ?_
    exact t_109 X n w _ _ _
theorem t_63 (a b t : Value) : Wa X m_M_wantItem 4 63 [.ref 82, .int n, .int w, a, b, t] [] (TG μ u N 0 p) (ngP μ u N p) := by
  by_cases h2 : w = 2
  · skip
    refine r_aload_n 0 d_M_wantItem_63 rfl rfl ?_
    refine r_getI fl_M_259 (by first | with_reducible assumption | rfl) rfl d_M_wantItem_64 ?_
    rw [tg_r17]
    refine r_if_eq d_M_wantItem_67 (fun h67 => ?_) (fun h67 => absurd rfl h67)
    refine r_aload_n 0 d_M_wantItem_74 rfl rfl ?_
    refine r_iload_n 2 d_M_wantItem_75 rfl rfl ?_
    refine r_iconst 2 d_M_wantItem_76 rfl ?_
    refine r_icmp_ne d_M_wantItem_77 (fun h77 => absurd h2 h77) (fun h77 => ?_)
    refine r_iconst 1 d_M_wantItem_80 rfl ?_
    refine r_goto d_M_wantItem_81 ?_
    refine r_bipush (9) d_M_wantItem_85 (by decide) ?_
    refine r_callVi (c_wn_0 1 9) lk_M_276 (by first | with_reducible assumption | rfl) d_M_wantItem_87 rfl rfl (Nat.le_of_ble_eq_true rfl) (by decide) ?_
    refine r_istore_n 3 [_, _, _, _, _, _] d_M_wantItem_90 rfl (by decide) rfl ?_
    exact t_91 X n w _ _ _
  · skip
    refine r_aload_n 0 d_M_wantItem_63 rfl rfl ?_
    refine r_getI fl_M_259 (by first | with_reducible assumption | rfl) rfl d_M_wantItem_64 ?_
    rw [tg_r17]
    refine r_if_eq d_M_wantItem_67 (fun h67 => ?_) (fun h67 => absurd rfl h67)
    refine r_aload_n 0 d_M_wantItem_74 rfl rfl ?_
    refine r_iload_n 2 d_M_wantItem_75 rfl rfl ?_
    refine r_iconst 2 d_M_wantItem_76 rfl ?_
    refine r_icmp_ne d_M_wantItem_77 (fun h77 => ?_) (fun h77 => absurd h77 h2)
    refine r_iconst 2 d_M_wantItem_84 rfl ?_
    refine r_bipush (9) d_M_wantItem_85 (by decide) ?_
    refine r_callVi (c_wn_0 2 9) lk_M_276 (by first | with_reducible assumption | rfl) d_M_wantItem_87 rfl rfl (Nat.le_of_ble_eq_true rfl) (by decide) ?_
    refine r_istore_n 3 [_, _, _, _, _, _] d_M_wantItem_90 rfl (by decide) rfl ?_
    exact t_91 X n w _ _ _
end Tails
set_option maxHeartbeats 400000 in
theorem c_wi_12 {μ : Me} {u : Nat → Nat} {N p n : Nat} (hn : 12 ≤ n) (hn2 : n < 100) : CtV m_M_wantItem 4 [.ref 82, .int (nI n)] (TG μ u N 1 p) (TG μ u N 0 p) := by
  refine Ct.of (ls := [.ref 82, .int (nI n), flr, flr, flr, flr]) rfl (Nat.le_of_ble_eq_true rfl) rfl (fun X => ?_)
  have key : ∀ w : Int32, Wa X m_M_wantItem 4 43 [.ref 82, .int (nI n), flr, flr, flr, flr] [.int w] (TG μ u N 1 p) (fun r μ' => r = none ∧ μ' = TG μ u N 0 p) := by
    intro w
    by_cases hw : w < 0
    · skip
      refine r_istore_n 2 [_, _, _, _, _, _] d_M_wantItem_43 rfl (by decide) rfl ?_
      refine r_aload_n 0 d_M_wantItem_44 rfl rfl ?_
      refine r_iload_n 2 d_M_wantItem_45 rfl rfl ?_
      refine r_if_lt d_M_wantItem_46 (fun h46 => ?_) (fun h46 => absurd hw h46)
      refine r_iconst 0 d_M_wantItem_59 rfl ?_
      refine r_putZ fp_M_259 (by first | with_reducible assumption | rfl) rfl (by first | exact Or.inl rfl | exact Or.inr rfl | assumption) d_M_wantItem_60 ?_
      refine Wa.eqM tg_17 ?_
      exact t_63 X _ _ _ _ _
    · skip
      refine r_istore_n 2 [_, _, _, _, _, _] d_M_wantItem_43 rfl (by decide) rfl ?_
      refine r_aload_n 0 d_M_wantItem_44 rfl rfl ?_
      refine r_iload_n 2 d_M_wantItem_45 rfl rfl ?_
      refine r_if_lt d_M_wantItem_46 (fun h46 => absurd h46 hw) (fun h46 => ?_)
      refine r_iload_n 1 d_M_wantItem_49 rfl rfl ?_
      refine r_bipush (12) d_M_wantItem_50 (by decide) ?_
      refine r_icmp_ge d_M_wantItem_52 (fun h52 => ?_) (fun h52 => absurd (nI_le (a := 12) (b := n) hn (by omega)) h52)
      refine r_iconst 0 d_M_wantItem_59 rfl ?_
      refine r_putZ fp_M_259 (by first | with_reducible assumption | rfl) rfl (by first | exact Or.inl rfl | exact Or.inr rfl | assumption) d_M_wantItem_60 ?_
      refine Wa.eqM tg_17 ?_
      exact t_63 X _ _ _ _ _
  by_cases k0 : nmOk u N 0 p
  · skip
    refine r_aload_n 0 d_M_wantItem_0 rfl rfl ?_
    refine r_ldc2 kc_M_266 d_M_wantItem_1 ?_
    refine r_callVi (c_iw_y (q := 0) 1 (by decide) k0) lk_M_268 (by first | with_reducible assumption | rfl) d_M_wantItem_4 rfl rfl (Nat.le_of_ble_eq_true rfl) (by decide) ?_
    refine r_if_eq d_M_wantItem_7 (fun h7 => absurd h7 (by decide)) (fun h7 => ?_)
    refine r_iconst 0 d_M_wantItem_10 rfl ?_
    refine r_goto d_M_wantItem_11 ?_
    exact key _
  · by_cases k2 : nmOk u N 2 p
    · skip
      refine r_aload_n 0 d_M_wantItem_0 rfl rfl ?_
      refine r_ldc2 kc_M_266 d_M_wantItem_1 ?_
      refine r_callVi (c_iw_n (q := 0) 1 (by decide) k0) lk_M_268 (by first | with_reducible assumption | rfl) d_M_wantItem_4 rfl rfl (Nat.le_of_ble_eq_true rfl) (by decide) ?_
      refine r_if_eq d_M_wantItem_7 (fun h7 => ?_) (fun h7 => absurd rfl h7)
      refine r_aload_n 0 d_M_wantItem_14 rfl rfl ?_
      refine r_ldc2 kc_M_272 d_M_wantItem_15 ?_
      refine r_callVi (c_iw_y (q := 2) 1 (by decide) k2) lk_M_268 (by first | with_reducible assumption | rfl) d_M_wantItem_18 rfl rfl (Nat.le_of_ble_eq_true rfl) (by decide) ?_
      refine r_if_eq d_M_wantItem_21 (fun h21 => absurd h21 (by decide)) (fun h21 => ?_)
      refine r_iconst 1 d_M_wantItem_24 rfl ?_
      refine r_goto d_M_wantItem_25 ?_
      exact key _
    · by_cases k3 : nmOk u N 3 p
      · skip
        refine r_aload_n 0 d_M_wantItem_0 rfl rfl ?_
        refine r_ldc2 kc_M_266 d_M_wantItem_1 ?_
        refine r_callVi (c_iw_n (q := 0) 1 (by decide) k0) lk_M_268 (by first | with_reducible assumption | rfl) d_M_wantItem_4 rfl rfl (Nat.le_of_ble_eq_true rfl) (by decide) ?_
        refine r_if_eq d_M_wantItem_7 (fun h7 => ?_) (fun h7 => absurd rfl h7)
        refine r_aload_n 0 d_M_wantItem_14 rfl rfl ?_
        refine r_ldc2 kc_M_272 d_M_wantItem_15 ?_
        refine r_callVi (c_iw_n (q := 2) 1 (by decide) k2) lk_M_268 (by first | with_reducible assumption | rfl) d_M_wantItem_18 rfl rfl (Nat.le_of_ble_eq_true rfl) (by decide) ?_
        refine r_if_eq d_M_wantItem_21 (fun h21 => ?_) (fun h21 => absurd rfl h21)
        refine r_aload_n 0 d_M_wantItem_28 rfl rfl ?_
        refine r_ldc2 kc_M_274 d_M_wantItem_29 ?_
        refine r_callVi (c_iw_y (q := 3) 1 (by decide) k3) lk_M_268 (by first | with_reducible assumption | rfl) d_M_wantItem_32 rfl rfl (Nat.le_of_ble_eq_true rfl) (by decide) ?_
        refine r_if_eq d_M_wantItem_35 (fun h35 => absurd h35 (by decide)) (fun h35 => ?_)
        refine r_iconst 2 d_M_wantItem_38 rfl ?_
        refine r_goto d_M_wantItem_39 ?_
        exact key _
      · skip
        refine r_aload_n 0 d_M_wantItem_0 rfl rfl ?_
        refine r_ldc2 kc_M_266 d_M_wantItem_1 ?_
        refine r_callVi (c_iw_n (q := 0) 1 (by decide) k0) lk_M_268 (by first | with_reducible assumption | rfl) d_M_wantItem_4 rfl rfl (Nat.le_of_ble_eq_true rfl) (by decide) ?_
        refine r_if_eq d_M_wantItem_7 (fun h7 => ?_) (fun h7 => absurd rfl h7)
        refine r_aload_n 0 d_M_wantItem_14 rfl rfl ?_
        refine r_ldc2 kc_M_272 d_M_wantItem_15 ?_
        refine r_callVi (c_iw_n (q := 2) 1 (by decide) k2) lk_M_268 (by first | with_reducible assumption | rfl) d_M_wantItem_18 rfl rfl (Nat.le_of_ble_eq_true rfl) (by decide) ?_
        refine r_if_eq d_M_wantItem_21 (fun h21 => ?_) (fun h21 => absurd rfl h21)
        refine r_aload_n 0 d_M_wantItem_28 rfl rfl ?_
        refine r_ldc2 kc_M_274 d_M_wantItem_29 ?_
        refine r_callVi (c_iw_n (q := 3) 1 (by decide) k3) lk_M_268 (by first | with_reducible assumption | rfl) d_M_wantItem_32 rfl rfl (Nat.le_of_ble_eq_true rfl) (by decide) ?_
        refine r_if_eq d_M_wantItem_35 (fun h35 => ?_) (fun h35 => absurd rfl h35)
        refine r_iconst (-1) d_M_wantItem_42 rfl ?_
        exact key _
/-- some place where the fault stands -/
def bdP (μ : Me) (u : Nat → Nat) (N f : Nat) : Option Value → Me → Prop := fun r μ' => r = none ∧ ∃ pf, μ' = TG μ u N 0 pf ∧ sb u N pf = f
theorem bd_of {μ : Me} {u : Nat → Nat} {N p f : Nat} (h : sb u N p = f) : ∀ r μ', ngP μ u N p r μ' → bdP μ u N f r μ' := fun _ _ z => ⟨z.1, p, z.2, h⟩
set_option maxHeartbeats 400000 in
theorem c_wi_n {μ : Me} {u : Nat → Nat} {N p n : Nat} (h : TmB μ u N) (hp : p ≤ N) (hn : n < 12) (hk : ¬ itK u N p) : Ct m_M_wantItem 4 [.ref 82, .int (nI n)] (TG μ u N 1 p) (bdP μ u N (itF u N p)) := by
  refine Ct.of (ls := [.ref 82, .int (nI n), flr, flr, flr, flr]) rfl (Nat.le_of_ble_eq_true rfl) rfl (fun X => ?_)
  have p1 := wE_le (u := u) hp
  have p2 := nE_le (u := u) p1
  have p3 : prE u N (wE u N p) ≤ N := nE_le (u := u) p2
  have p4 := wE_le (u := u) p3
  have p5 := nE_le (u := u) p4
  have l12 := nI_ge (a := n) (b := 12) hn (by decide)
  unfold itK at hk
  by_cases k0 : nmOk u N 0 p
  · rw [if_pos k0] at hk
    have a0 := c_adv h hp 1
    rw [tkE_w (q := 0) (by decide) k0] at a0
    rw [itF, if_pos k0]
    refine r_aload_n 0 d_M_wantItem_0 rfl rfl ?_
    refine r_ldc2 kc_M_266 d_M_wantItem_1 ?_
    refine r_callVi (c_iw_y (q := 0) 1 (by decide) k0) lk_M_268 (by first | with_reducible assumption | rfl) d_M_wantItem_4 rfl rfl (Nat.le_of_ble_eq_true rfl) (by decide) ?_
    refine r_if_eq d_M_wantItem_7 (fun h7 => absurd h7 (by decide)) (fun h7 => ?_)
    refine r_iconst 0 d_M_wantItem_10 rfl ?_
    refine r_goto d_M_wantItem_11 ?_
    refine r_istore_n 2 [_, _, _, _, _, _] d_M_wantItem_43 rfl (by decide) rfl ?_
    refine r_aload_n 0 d_M_wantItem_44 rfl rfl ?_
    refine r_iload_n 2 d_M_wantItem_45 rfl rfl ?_
    refine r_if_lt d_M_wantItem_46 (fun h46 => absurd h46 (by decide)) (fun h46 => ?_)
    refine r_iload_n 1 d_M_wantItem_49 rfl rfl ?_
    refine r_bipush (12) d_M_wantItem_50 (by decide) ?_
    refine r_icmp_ge d_M_wantItem_52 (fun h52 => absurd h52 l12) (fun h52 => ?_)
    refine r_iconst 1 d_M_wantItem_55 rfl ?_
    refine r_goto d_M_wantItem_56 ?_
    refine r_putZ fp_M_259 (by first | with_reducible assumption | rfl) rfl (by first | exact Or.inl rfl | exact Or.inr rfl | assumption) d_M_wantItem_60 ?_
    refine Wa.eqM tg_17 ?_
    refine r_aload_n 0 d_M_wantItem_63 rfl rfl ?_
    refine r_getI fl_M_259 (by first | with_reducible assumption | rfl) rfl d_M_wantItem_64 ?_
    rw [tg_r17]
    refine r_if_eq d_M_wantItem_67 (fun h67 => absurd h67 (by decide)) (fun h67 => ?_)
    refine r_aload_n 0 d_M_wantItem_70 rfl rfl ?_
    refine r_callVv a0 lk_M_263 (by first | with_reducible assumption | rfl) d_M_wantItem_71 rfl rfl (Nat.le_of_ble_eq_true rfl) (by decide) ?_
    refine r_aload_n 0 d_M_wantItem_74 rfl rfl ?_
    refine r_iload_n 2 d_M_wantItem_75 rfl rfl ?_
    refine r_iconst 2 d_M_wantItem_76 rfl ?_
    refine r_icmp_ne d_M_wantItem_77 (fun h77 => ?_) (fun h77 => absurd h77 (by decide))
    refine r_iconst 2 d_M_wantItem_84 rfl ?_
    by_cases k1 : nuOk u N 2 9 (wE u N p)
    · by_cases k2 : nuOk u N 2 9 (nE u N (wE u N p))
      · by_cases k3 : nmOk u N 1 (prE u N (wE u N p))
        · have a3 := c_adv h p3 1
          rw [tkE_w (q := 1) (by decide) k3] at a3
          by_cases k4 : nuOk u N 1 9 (wE u N (prE u N (wE u N p)))
          · have k5 : ¬ smOk u N (nE u N (wE u N (prE u N (wE u N p)))) := fun z => hk ⟨⟨⟨k1, k2⟩, k3⟩, k4, z⟩
            rw [askF, if_pos ⟨k1, k2⟩, if_pos k3, if_pos k4]
            refine r_bipush (9) d_M_wantItem_85 (by decide) ?_
            refine r_callVi (c_wn_y (lo := 2) (hi := 9) h p1 (by decide) (by decide) (by decide) k1) lk_M_276 (by first | with_reducible assumption | rfl) d_M_wantItem_87 rfl rfl (Nat.le_of_ble_eq_true rfl) (by decide) ?_
            refine r_istore_n 3 [_, _, _, _, _, _] d_M_wantItem_90 rfl (by decide) rfl ?_
            refine r_iload_n 2 d_M_wantItem_91 rfl rfl ?_
            refine r_iconst 2 d_M_wantItem_92 rfl ?_
            refine r_icmp_ne d_M_wantItem_93 (fun h93 => ?_) (fun h93 => absurd h93 (by decide))
            refine r_aload_n 0 d_M_wantItem_100 rfl rfl ?_
            refine r_iconst 2 d_M_wantItem_101 rfl ?_
            refine r_bipush (9) d_M_wantItem_102 (by decide) ?_
            refine r_callVi (c_wn_y (lo := 2) (hi := 9) h p2 (by decide) (by decide) (by decide) k2) lk_M_276 (by first | with_reducible assumption | rfl) d_M_wantItem_104 rfl rfl (Nat.le_of_ble_eq_true rfl) (by decide) ?_
            refine r_istore 4 [_, _, _, _, _, _] d_M_wantItem_107 (by decide) rfl ?_
            refine r_iconst 0 d_M_wantItem_109 rfl ?_
            refine r_istore 5 [_, _, _, _, _, _] d_M_wantItem_110 (by decide) rfl ?_
            refine r_iload_n 2 d_M_wantItem_112 rfl rfl ?_
            refine r_if_ne d_M_wantItem_113 (fun h113 => absurd rfl h113) (fun h113 => ?_)
            refine r_aload_n 0 d_M_wantItem_116 rfl rfl ?_
            refine r_aload_n 0 d_M_wantItem_117 rfl rfl ?_
            refine r_getI fl_M_259 (by first | with_reducible assumption | rfl) rfl d_M_wantItem_118 ?_
            rw [tg_r17]
            refine r_if_eq d_M_wantItem_121 (fun h121 => absurd h121 (by decide)) (fun h121 => ?_)
            refine r_aload_n 0 d_M_wantItem_124 rfl rfl ?_
            refine r_ldc2 kc_M_279 d_M_wantItem_125 ?_
            refine r_callVi (c_iw_y (q := 1) 1 (by decide) k3) lk_M_268 (by first | with_reducible assumption | rfl) d_M_wantItem_128 rfl rfl (Nat.le_of_ble_eq_true rfl) (by decide) ?_
            refine r_if_eq d_M_wantItem_131 (fun h131 => absurd h131 (by decide)) (fun h131 => ?_)
            refine r_iconst 1 d_M_wantItem_134 rfl ?_
            refine r_goto d_M_wantItem_135 ?_
            refine r_putZ fp_M_259 (by first | with_reducible assumption | rfl) rfl (by first | exact Or.inl rfl | exact Or.inr rfl | assumption) d_M_wantItem_139 ?_
            refine Wa.eqM tg_17 ?_
            refine r_aload_n 0 d_M_wantItem_142 rfl rfl ?_
            refine r_getI fl_M_259 (by first | with_reducible assumption | rfl) rfl d_M_wantItem_143 ?_
            rw [tg_r17]
            refine r_if_eq d_M_wantItem_146 (fun h146 => absurd h146 (by decide)) (fun h146 => ?_)
            refine r_aload_n 0 d_M_wantItem_149 rfl rfl ?_
            refine r_callVv a3 lk_M_263 (by first | with_reducible assumption | rfl) d_M_wantItem_150 rfl rfl (Nat.le_of_ble_eq_true rfl) (by decide) ?_
            refine r_aload_n 0 d_M_wantItem_153 rfl rfl ?_
            refine r_iconst 1 d_M_wantItem_154 rfl ?_
            refine r_bipush (9) d_M_wantItem_155 (by decide) ?_
            refine r_callVi (c_wn_y (lo := 1) (hi := 9) h p4 (by decide) (by decide) (by decide) k4) lk_M_276 (by first | with_reducible assumption | rfl) d_M_wantItem_157 rfl rfl (Nat.le_of_ble_eq_true rfl) (by decide) ?_
            refine r_istore 5 [_, _, _, _, _, _] d_M_wantItem_160 (by decide) rfl ?_
            refine r_aload_n 0 d_M_wantItem_162 rfl rfl ?_
            refine r_aload_n 0 d_M_wantItem_163 rfl rfl ?_
            refine r_getI fl_M_259 (by first | with_reducible assumption | rfl) rfl d_M_wantItem_164 ?_
            rw [tg_r17]
            refine r_if_eq d_M_wantItem_167 (fun h167 => absurd h167 (by decide)) (fun h167 => ?_)
            refine r_aload_n 0 d_M_wantItem_170 rfl rfl ?_
            refine r_bipush (59) d_M_wantItem_171 (by decide) ?_
            refine r_callVi (c_im_n h 1 k5) lk_M_281 (by first | with_reducible assumption | rfl) d_M_wantItem_173 rfl rfl (Nat.le_of_ble_eq_true rfl) (by decide) ?_
            refine r_if_eq d_M_wantItem_176 (fun h176 => ?_) (fun h176 => absurd rfl h176)
            refine r_iconst 0 d_M_wantItem_183 rfl ?_
            refine r_putZ fp_M_259 (by first | with_reducible assumption | rfl) rfl (by first | exact Or.inl rfl | exact Or.inr rfl | assumption) d_M_wantItem_184 ?_
            refine Wa.eqM tg_17 ?_
            exact Wa.mono (bd_of rfl) (t_187 X _ _ _ _ _)
          · rw [askF, if_pos ⟨k1, k2⟩, if_pos k3, if_neg k4]
            refine r_bipush (9) d_M_wantItem_85 (by decide) ?_
            refine r_callVi (c_wn_y (lo := 2) (hi := 9) h p1 (by decide) (by decide) (by decide) k1) lk_M_276 (by first | with_reducible assumption | rfl) d_M_wantItem_87 rfl rfl (Nat.le_of_ble_eq_true rfl) (by decide) ?_
            refine r_istore_n 3 [_, _, _, _, _, _] d_M_wantItem_90 rfl (by decide) rfl ?_
            refine r_iload_n 2 d_M_wantItem_91 rfl rfl ?_
            refine r_iconst 2 d_M_wantItem_92 rfl ?_
            refine r_icmp_ne d_M_wantItem_93 (fun h93 => ?_) (fun h93 => absurd h93 (by decide))
            refine r_aload_n 0 d_M_wantItem_100 rfl rfl ?_
            refine r_iconst 2 d_M_wantItem_101 rfl ?_
            refine r_bipush (9) d_M_wantItem_102 (by decide) ?_
            refine r_callVi (c_wn_y (lo := 2) (hi := 9) h p2 (by decide) (by decide) (by decide) k2) lk_M_276 (by first | with_reducible assumption | rfl) d_M_wantItem_104 rfl rfl (Nat.le_of_ble_eq_true rfl) (by decide) ?_
            refine r_istore 4 [_, _, _, _, _, _] d_M_wantItem_107 (by decide) rfl ?_
            refine r_iconst 0 d_M_wantItem_109 rfl ?_
            refine r_istore 5 [_, _, _, _, _, _] d_M_wantItem_110 (by decide) rfl ?_
            refine r_iload_n 2 d_M_wantItem_112 rfl rfl ?_
            refine r_if_ne d_M_wantItem_113 (fun h113 => absurd rfl h113) (fun h113 => ?_)
            refine r_aload_n 0 d_M_wantItem_116 rfl rfl ?_
            refine r_aload_n 0 d_M_wantItem_117 rfl rfl ?_
            refine r_getI fl_M_259 (by first | with_reducible assumption | rfl) rfl d_M_wantItem_118 ?_
            rw [tg_r17]
            refine r_if_eq d_M_wantItem_121 (fun h121 => absurd h121 (by decide)) (fun h121 => ?_)
            refine r_aload_n 0 d_M_wantItem_124 rfl rfl ?_
            refine r_ldc2 kc_M_279 d_M_wantItem_125 ?_
            refine r_callVi (c_iw_y (q := 1) 1 (by decide) k3) lk_M_268 (by first | with_reducible assumption | rfl) d_M_wantItem_128 rfl rfl (Nat.le_of_ble_eq_true rfl) (by decide) ?_
            refine r_if_eq d_M_wantItem_131 (fun h131 => absurd h131 (by decide)) (fun h131 => ?_)
            refine r_iconst 1 d_M_wantItem_134 rfl ?_
            refine r_goto d_M_wantItem_135 ?_
            refine r_putZ fp_M_259 (by first | with_reducible assumption | rfl) rfl (by first | exact Or.inl rfl | exact Or.inr rfl | assumption) d_M_wantItem_139 ?_
            refine Wa.eqM tg_17 ?_
            refine r_aload_n 0 d_M_wantItem_142 rfl rfl ?_
            refine r_getI fl_M_259 (by first | with_reducible assumption | rfl) rfl d_M_wantItem_143 ?_
            rw [tg_r17]
            refine r_if_eq d_M_wantItem_146 (fun h146 => absurd h146 (by decide)) (fun h146 => ?_)
            refine r_aload_n 0 d_M_wantItem_149 rfl rfl ?_
            refine r_callVv a3 lk_M_263 (by first | with_reducible assumption | rfl) d_M_wantItem_150 rfl rfl (Nat.le_of_ble_eq_true rfl) (by decide) ?_
            refine r_aload_n 0 d_M_wantItem_153 rfl rfl ?_
            refine r_iconst 1 d_M_wantItem_154 rfl ?_
            refine r_bipush (9) d_M_wantItem_155 (by decide) ?_
            refine r_callVi (c_wn_n (lo := 1) (hi := 9) (by decide) (by decide) (by decide) k4) lk_M_276 (by first | with_reducible assumption | rfl) d_M_wantItem_157 rfl rfl (Nat.le_of_ble_eq_true rfl) (by decide) ?_
            refine r_istore 5 [_, _, _, _, _, _] d_M_wantItem_160 (by decide) rfl ?_
            exact Wa.mono (bd_of rfl) (t_162 X _ _ _ _ _)
        · rw [askF, if_pos ⟨k1, k2⟩, if_neg k3]
          refine r_bipush (9) d_M_wantItem_85 (by decide) ?_
          refine r_callVi (c_wn_y (lo := 2) (hi := 9) h p1 (by decide) (by decide) (by decide) k1) lk_M_276 (by first | with_reducible assumption | rfl) d_M_wantItem_87 rfl rfl (Nat.le_of_ble_eq_true rfl) (by decide) ?_
          refine r_istore_n 3 [_, _, _, _, _, _] d_M_wantItem_90 rfl (by decide) rfl ?_
          refine r_iload_n 2 d_M_wantItem_91 rfl rfl ?_
          refine r_iconst 2 d_M_wantItem_92 rfl ?_
          refine r_icmp_ne d_M_wantItem_93 (fun h93 => ?_) (fun h93 => absurd h93 (by decide))
          refine r_aload_n 0 d_M_wantItem_100 rfl rfl ?_
          refine r_iconst 2 d_M_wantItem_101 rfl ?_
          refine r_bipush (9) d_M_wantItem_102 (by decide) ?_
          refine r_callVi (c_wn_y (lo := 2) (hi := 9) h p2 (by decide) (by decide) (by decide) k2) lk_M_276 (by first | with_reducible assumption | rfl) d_M_wantItem_104 rfl rfl (Nat.le_of_ble_eq_true rfl) (by decide) ?_
          refine r_istore 4 [_, _, _, _, _, _] d_M_wantItem_107 (by decide) rfl ?_
          refine r_iconst 0 d_M_wantItem_109 rfl ?_
          refine r_istore 5 [_, _, _, _, _, _] d_M_wantItem_110 (by decide) rfl ?_
          refine r_iload_n 2 d_M_wantItem_112 rfl rfl ?_
          refine r_if_ne d_M_wantItem_113 (fun h113 => absurd rfl h113) (fun h113 => ?_)
          refine r_aload_n 0 d_M_wantItem_116 rfl rfl ?_
          refine r_aload_n 0 d_M_wantItem_117 rfl rfl ?_
          refine r_getI fl_M_259 (by first | with_reducible assumption | rfl) rfl d_M_wantItem_118 ?_
          rw [tg_r17]
          refine r_if_eq d_M_wantItem_121 (fun h121 => absurd h121 (by decide)) (fun h121 => ?_)
          refine r_aload_n 0 d_M_wantItem_124 rfl rfl ?_
          refine r_ldc2 kc_M_279 d_M_wantItem_125 ?_
          refine r_callVi (c_iw_n (q := 1) 1 (by decide) k3) lk_M_268 (by first | with_reducible assumption | rfl) d_M_wantItem_128 rfl rfl (Nat.le_of_ble_eq_true rfl) (by decide) ?_
          refine r_if_eq d_M_wantItem_131 (fun h131 => ?_) (fun h131 => absurd rfl h131)
          refine r_iconst 0 d_M_wantItem_138 rfl ?_
          refine r_putZ fp_M_259 (by first | with_reducible assumption | rfl) rfl (by first | exact Or.inl rfl | exact Or.inr rfl | assumption) d_M_wantItem_139 ?_
          refine Wa.eqM tg_17 ?_
          exact Wa.mono (bd_of rfl) (t_142 X _ _ _ _ _)
      · rw [askF, if_neg (fun z => k2 z.2), prF, if_pos k1]
        refine r_bipush (9) d_M_wantItem_85 (by decide) ?_
        refine r_callVi (c_wn_y (lo := 2) (hi := 9) h p1 (by decide) (by decide) (by decide) k1) lk_M_276 (by first | with_reducible assumption | rfl) d_M_wantItem_87 rfl rfl (Nat.le_of_ble_eq_true rfl) (by decide) ?_
        refine r_istore_n 3 [_, _, _, _, _, _] d_M_wantItem_90 rfl (by decide) rfl ?_
        refine r_iload_n 2 d_M_wantItem_91 rfl rfl ?_
        refine r_iconst 2 d_M_wantItem_92 rfl ?_
        refine r_icmp_ne d_M_wantItem_93 (fun h93 => ?_) (fun h93 => absurd h93 (by decide))
        refine r_aload_n 0 d_M_wantItem_100 rfl rfl ?_
        refine r_iconst 2 d_M_wantItem_101 rfl ?_
        refine r_bipush (9) d_M_wantItem_102 (by decide) ?_
        refine r_callVi (c_wn_n (lo := 2) (hi := 9) (by decide) (by decide) (by decide) k2) lk_M_276 (by first | with_reducible assumption | rfl) d_M_wantItem_104 rfl rfl (Nat.le_of_ble_eq_true rfl) (by decide) ?_
        refine r_istore 4 [_, _, _, _, _, _] d_M_wantItem_107 (by decide) rfl ?_
        exact Wa.mono (bd_of rfl) (t_109 X _ _ _ _ _)
    · rw [askF, if_neg (fun z => k1 z.1), prF, if_neg k1]
      refine r_bipush (9) d_M_wantItem_85 (by decide) ?_
      refine r_callVi (c_wn_n (lo := 2) (hi := 9) (by decide) (by decide) (by decide) k1) lk_M_276 (by first | with_reducible assumption | rfl) d_M_wantItem_87 rfl rfl (Nat.le_of_ble_eq_true rfl) (by decide) ?_
      refine r_istore_n 3 [_, _, _, _, _, _] d_M_wantItem_90 rfl (by decide) rfl ?_
      exact Wa.mono (bd_of rfl) (t_91 X _ _ _ _ _)
  · rw [if_neg k0] at hk
    by_cases k2' : nmOk u N 2 p
    · rw [if_pos k2'] at hk
      have a0 := c_adv h hp 1
      rw [tkE_w (q := 2) (by decide) k2'] at a0
      rw [itF, if_neg k0, if_pos k2']
      refine r_aload_n 0 d_M_wantItem_0 rfl rfl ?_
      refine r_ldc2 kc_M_266 d_M_wantItem_1 ?_
      refine r_callVi (c_iw_n (q := 0) 1 (by decide) k0) lk_M_268 (by first | with_reducible assumption | rfl) d_M_wantItem_4 rfl rfl (Nat.le_of_ble_eq_true rfl) (by decide) ?_
      refine r_if_eq d_M_wantItem_7 (fun h7 => ?_) (fun h7 => absurd rfl h7)
      refine r_aload_n 0 d_M_wantItem_14 rfl rfl ?_
      refine r_ldc2 kc_M_272 d_M_wantItem_15 ?_
      refine r_callVi (c_iw_y (q := 2) 1 (by decide) k2') lk_M_268 (by first | with_reducible assumption | rfl) d_M_wantItem_18 rfl rfl (Nat.le_of_ble_eq_true rfl) (by decide) ?_
      refine r_if_eq d_M_wantItem_21 (fun h21 => absurd h21 (by decide)) (fun h21 => ?_)
      refine r_iconst 1 d_M_wantItem_24 rfl ?_
      refine r_goto d_M_wantItem_25 ?_
      refine r_istore_n 2 [_, _, _, _, _, _] d_M_wantItem_43 rfl (by decide) rfl ?_
      refine r_aload_n 0 d_M_wantItem_44 rfl rfl ?_
      refine r_iload_n 2 d_M_wantItem_45 rfl rfl ?_
      refine r_if_lt d_M_wantItem_46 (fun h46 => absurd h46 (by decide)) (fun h46 => ?_)
      refine r_iload_n 1 d_M_wantItem_49 rfl rfl ?_
      refine r_bipush (12) d_M_wantItem_50 (by decide) ?_
      refine r_icmp_ge d_M_wantItem_52 (fun h52 => absurd h52 l12) (fun h52 => ?_)
      refine r_iconst 1 d_M_wantItem_55 rfl ?_
      refine r_goto d_M_wantItem_56 ?_
      refine r_putZ fp_M_259 (by first | with_reducible assumption | rfl) rfl (by first | exact Or.inl rfl | exact Or.inr rfl | assumption) d_M_wantItem_60 ?_
      refine Wa.eqM tg_17 ?_
      refine r_aload_n 0 d_M_wantItem_63 rfl rfl ?_
      refine r_getI fl_M_259 (by first | with_reducible assumption | rfl) rfl d_M_wantItem_64 ?_
      rw [tg_r17]
      refine r_if_eq d_M_wantItem_67 (fun h67 => absurd h67 (by decide)) (fun h67 => ?_)
      refine r_aload_n 0 d_M_wantItem_70 rfl rfl ?_
      refine r_callVv a0 lk_M_263 (by first | with_reducible assumption | rfl) d_M_wantItem_71 rfl rfl (Nat.le_of_ble_eq_true rfl) (by decide) ?_
      refine r_aload_n 0 d_M_wantItem_74 rfl rfl ?_
      refine r_iload_n 2 d_M_wantItem_75 rfl rfl ?_
      refine r_iconst 2 d_M_wantItem_76 rfl ?_
      refine r_icmp_ne d_M_wantItem_77 (fun h77 => ?_) (fun h77 => absurd h77 (by decide))
      refine r_iconst 2 d_M_wantItem_84 rfl ?_
      by_cases k1 : nuOk u N 2 9 (wE u N p)
      · by_cases k2 : nuOk u N 2 9 (nE u N (wE u N p))
        · have k5 : ¬ smOk u N (prE u N (wE u N p)) := fun z => hk ⟨⟨k1, k2⟩, z⟩
          rw [telF, if_pos ⟨k1, k2⟩]
          refine r_bipush (9) d_M_wantItem_85 (by decide) ?_
          refine r_callVi (c_wn_y (lo := 2) (hi := 9) h p1 (by decide) (by decide) (by decide) k1) lk_M_276 (by first | with_reducible assumption | rfl) d_M_wantItem_87 rfl rfl (Nat.le_of_ble_eq_true rfl) (by decide) ?_
          refine r_istore_n 3 [_, _, _, _, _, _] d_M_wantItem_90 rfl (by decide) rfl ?_
          refine r_iload_n 2 d_M_wantItem_91 rfl rfl ?_
          refine r_iconst 2 d_M_wantItem_92 rfl ?_
          refine r_icmp_ne d_M_wantItem_93 (fun h93 => ?_) (fun h93 => absurd h93 (by decide))
          refine r_aload_n 0 d_M_wantItem_100 rfl rfl ?_
          refine r_iconst 2 d_M_wantItem_101 rfl ?_
          refine r_bipush (9) d_M_wantItem_102 (by decide) ?_
          refine r_callVi (c_wn_y (lo := 2) (hi := 9) h p2 (by decide) (by decide) (by decide) k2) lk_M_276 (by first | with_reducible assumption | rfl) d_M_wantItem_104 rfl rfl (Nat.le_of_ble_eq_true rfl) (by decide) ?_
          refine r_istore 4 [_, _, _, _, _, _] d_M_wantItem_107 (by decide) rfl ?_
          refine r_iconst 0 d_M_wantItem_109 rfl ?_
          refine r_istore 5 [_, _, _, _, _, _] d_M_wantItem_110 (by decide) rfl ?_
          refine r_iload_n 2 d_M_wantItem_112 rfl rfl ?_
          refine r_if_ne d_M_wantItem_113 (fun h113 => ?_) (fun h113 => absurd h113 (by decide))
          refine r_aload_n 0 d_M_wantItem_162 rfl rfl ?_
          refine r_aload_n 0 d_M_wantItem_163 rfl rfl ?_
          refine r_getI fl_M_259 (by first | with_reducible assumption | rfl) rfl d_M_wantItem_164 ?_
          rw [tg_r17]
          refine r_if_eq d_M_wantItem_167 (fun h167 => absurd h167 (by decide)) (fun h167 => ?_)
          refine r_aload_n 0 d_M_wantItem_170 rfl rfl ?_
          refine r_bipush (59) d_M_wantItem_171 (by decide) ?_
          refine r_callVi (c_im_n h 1 k5) lk_M_281 (by first | with_reducible assumption | rfl) d_M_wantItem_173 rfl rfl (Nat.le_of_ble_eq_true rfl) (by decide) ?_
          refine r_if_eq d_M_wantItem_176 (fun h176 => ?_) (fun h176 => absurd rfl h176)
          refine r_iconst 0 d_M_wantItem_183 rfl ?_
          refine r_putZ fp_M_259 (by first | with_reducible assumption | rfl) rfl (by first | exact Or.inl rfl | exact Or.inr rfl | assumption) d_M_wantItem_184 ?_
          refine Wa.eqM tg_17 ?_
          exact Wa.mono (bd_of rfl) (t_187 X _ _ _ _ _)
        · rw [telF, if_neg (fun z => k2 z.2), prF, if_pos k1]
          refine r_bipush (9) d_M_wantItem_85 (by decide) ?_
          refine r_callVi (c_wn_y (lo := 2) (hi := 9) h p1 (by decide) (by decide) (by decide) k1) lk_M_276 (by first | with_reducible assumption | rfl) d_M_wantItem_87 rfl rfl (Nat.le_of_ble_eq_true rfl) (by decide) ?_
          refine r_istore_n 3 [_, _, _, _, _, _] d_M_wantItem_90 rfl (by decide) rfl ?_
          refine r_iload_n 2 d_M_wantItem_91 rfl rfl ?_
          refine r_iconst 2 d_M_wantItem_92 rfl ?_
          refine r_icmp_ne d_M_wantItem_93 (fun h93 => ?_) (fun h93 => absurd h93 (by decide))
          refine r_aload_n 0 d_M_wantItem_100 rfl rfl ?_
          refine r_iconst 2 d_M_wantItem_101 rfl ?_
          refine r_bipush (9) d_M_wantItem_102 (by decide) ?_
          refine r_callVi (c_wn_n (lo := 2) (hi := 9) (by decide) (by decide) (by decide) k2) lk_M_276 (by first | with_reducible assumption | rfl) d_M_wantItem_104 rfl rfl (Nat.le_of_ble_eq_true rfl) (by decide) ?_
          refine r_istore 4 [_, _, _, _, _, _] d_M_wantItem_107 (by decide) rfl ?_
          exact Wa.mono (bd_of rfl) (t_109 X _ _ _ _ _)
      · rw [telF, if_neg (fun z => k1 z.1), prF, if_neg k1]
        refine r_bipush (9) d_M_wantItem_85 (by decide) ?_
        refine r_callVi (c_wn_n (lo := 2) (hi := 9) (by decide) (by decide) (by decide) k1) lk_M_276 (by first | with_reducible assumption | rfl) d_M_wantItem_87 rfl rfl (Nat.le_of_ble_eq_true rfl) (by decide) ?_
        refine r_istore_n 3 [_, _, _, _, _, _] d_M_wantItem_90 rfl (by decide) rfl ?_
        exact Wa.mono (bd_of rfl) (t_91 X _ _ _ _ _)
    · rw [if_neg k2'] at hk
      by_cases k3' : nmOk u N 3 p
      · rw [if_pos k3'] at hk
        have a0 := c_adv h hp 1
        rw [tkE_w (q := 3) (by decide) k3'] at a0
        rw [itF, if_neg k0, if_neg k2', if_pos k3']
        refine r_aload_n 0 d_M_wantItem_0 rfl rfl ?_
        refine r_ldc2 kc_M_266 d_M_wantItem_1 ?_
        refine r_callVi (c_iw_n (q := 0) 1 (by decide) k0) lk_M_268 (by first | with_reducible assumption | rfl) d_M_wantItem_4 rfl rfl (Nat.le_of_ble_eq_true rfl) (by decide) ?_
        refine r_if_eq d_M_wantItem_7 (fun h7 => ?_) (fun h7 => absurd rfl h7)
        refine r_aload_n 0 d_M_wantItem_14 rfl rfl ?_
        refine r_ldc2 kc_M_272 d_M_wantItem_15 ?_
        refine r_callVi (c_iw_n (q := 2) 1 (by decide) k2') lk_M_268 (by first | with_reducible assumption | rfl) d_M_wantItem_18 rfl rfl (Nat.le_of_ble_eq_true rfl) (by decide) ?_
        refine r_if_eq d_M_wantItem_21 (fun h21 => ?_) (fun h21 => absurd rfl h21)
        refine r_aload_n 0 d_M_wantItem_28 rfl rfl ?_
        refine r_ldc2 kc_M_274 d_M_wantItem_29 ?_
        refine r_callVi (c_iw_y (q := 3) 1 (by decide) k3') lk_M_268 (by first | with_reducible assumption | rfl) d_M_wantItem_32 rfl rfl (Nat.le_of_ble_eq_true rfl) (by decide) ?_
        refine r_if_eq d_M_wantItem_35 (fun h35 => absurd h35 (by decide)) (fun h35 => ?_)
        refine r_iconst 2 d_M_wantItem_38 rfl ?_
        refine r_goto d_M_wantItem_39 ?_
        refine r_istore_n 2 [_, _, _, _, _, _] d_M_wantItem_43 rfl (by decide) rfl ?_
        refine r_aload_n 0 d_M_wantItem_44 rfl rfl ?_
        refine r_iload_n 2 d_M_wantItem_45 rfl rfl ?_
        refine r_if_lt d_M_wantItem_46 (fun h46 => absurd h46 (by decide)) (fun h46 => ?_)
        refine r_iload_n 1 d_M_wantItem_49 rfl rfl ?_
        refine r_bipush (12) d_M_wantItem_50 (by decide) ?_
        refine r_icmp_ge d_M_wantItem_52 (fun h52 => absurd h52 l12) (fun h52 => ?_)
        refine r_iconst 1 d_M_wantItem_55 rfl ?_
        refine r_goto d_M_wantItem_56 ?_
        refine r_putZ fp_M_259 (by first | with_reducible assumption | rfl) rfl (by first | exact Or.inl rfl | exact Or.inr rfl | assumption) d_M_wantItem_60 ?_
        refine Wa.eqM tg_17 ?_
        refine r_aload_n 0 d_M_wantItem_63 rfl rfl ?_
        refine r_getI fl_M_259 (by first | with_reducible assumption | rfl) rfl d_M_wantItem_64 ?_
        rw [tg_r17]
        refine r_if_eq d_M_wantItem_67 (fun h67 => absurd h67 (by decide)) (fun h67 => ?_)
        refine r_aload_n 0 d_M_wantItem_70 rfl rfl ?_
        refine r_callVv a0 lk_M_263 (by first | with_reducible assumption | rfl) d_M_wantItem_71 rfl rfl (Nat.le_of_ble_eq_true rfl) (by decide) ?_
        refine r_aload_n 0 d_M_wantItem_74 rfl rfl ?_
        refine r_iload_n 2 d_M_wantItem_75 rfl rfl ?_
        refine r_iconst 2 d_M_wantItem_76 rfl ?_
        refine r_icmp_ne d_M_wantItem_77 (fun h77 => absurd rfl h77) (fun h77 => ?_)
        refine r_iconst 1 d_M_wantItem_80 rfl ?_
        refine r_goto d_M_wantItem_81 ?_
        by_cases k1 : nuOk u N 1 9 (wE u N p)
        · have k5 : ¬ smOk u N (nE u N (wE u N p)) := fun z => hk ⟨k1, z⟩
          rw [rstF, if_pos k1]
          refine r_bipush (9) d_M_wantItem_85 (by decide) ?_
          refine r_callVi (c_wn_y (lo := 1) (hi := 9) h p1 (by decide) (by decide) (by decide) k1) lk_M_276 (by first | with_reducible assumption | rfl) d_M_wantItem_87 rfl rfl (Nat.le_of_ble_eq_true rfl) (by decide) ?_
          refine r_istore_n 3 [_, _, _, _, _, _] d_M_wantItem_90 rfl (by decide) rfl ?_
          refine r_iload_n 2 d_M_wantItem_91 rfl rfl ?_
          refine r_iconst 2 d_M_wantItem_92 rfl ?_
          refine r_icmp_ne d_M_wantItem_93 (fun h93 => absurd rfl h93) (fun h93 => ?_)
          refine r_iconst 0 d_M_wantItem_96 rfl ?_
          refine r_goto d_M_wantItem_97 ?_
          refine r_istore 4 [_, _, _, _, _, _] d_M_wantItem_107 (by decide) rfl ?_
          refine r_iconst 0 d_M_wantItem_109 rfl ?_
          refine r_istore 5 [_, _, _, _, _, _] d_M_wantItem_110 (by decide) rfl ?_
          refine r_iload_n 2 d_M_wantItem_112 rfl rfl ?_
          refine r_if_ne d_M_wantItem_113 (fun h113 => ?_) (fun h113 => absurd h113 (by decide))
          refine r_aload_n 0 d_M_wantItem_162 rfl rfl ?_
          refine r_aload_n 0 d_M_wantItem_163 rfl rfl ?_
          refine r_getI fl_M_259 (by first | with_reducible assumption | rfl) rfl d_M_wantItem_164 ?_
          rw [tg_r17]
          refine r_if_eq d_M_wantItem_167 (fun h167 => absurd h167 (by decide)) (fun h167 => ?_)
          refine r_aload_n 0 d_M_wantItem_170 rfl rfl ?_
          refine r_bipush (59) d_M_wantItem_171 (by decide) ?_
          refine r_callVi (c_im_n h 1 k5) lk_M_281 (by first | with_reducible assumption | rfl) d_M_wantItem_173 rfl rfl (Nat.le_of_ble_eq_true rfl) (by decide) ?_
          refine r_if_eq d_M_wantItem_176 (fun h176 => ?_) (fun h176 => absurd rfl h176)
          refine r_iconst 0 d_M_wantItem_183 rfl ?_
          refine r_putZ fp_M_259 (by first | with_reducible assumption | rfl) rfl (by first | exact Or.inl rfl | exact Or.inr rfl | assumption) d_M_wantItem_184 ?_
          refine Wa.eqM tg_17 ?_
          exact Wa.mono (bd_of rfl) (t_187 X _ _ _ _ _)
        · rw [rstF, if_neg k1]
          refine r_bipush (9) d_M_wantItem_85 (by decide) ?_
          refine r_callVi (c_wn_n (lo := 1) (hi := 9) (by decide) (by decide) (by decide) k1) lk_M_276 (by first | with_reducible assumption | rfl) d_M_wantItem_87 rfl rfl (Nat.le_of_ble_eq_true rfl) (by decide) ?_
          refine r_istore_n 3 [_, _, _, _, _, _] d_M_wantItem_90 rfl (by decide) rfl ?_
          exact Wa.mono (bd_of rfl) (t_91 X _ _ _ _ _)
      · rw [itF, if_neg k0, if_neg k2', if_neg k3']
        refine r_aload_n 0 d_M_wantItem_0 rfl rfl ?_
        refine r_ldc2 kc_M_266 d_M_wantItem_1 ?_
        refine r_callVi (c_iw_n (q := 0) 1 (by decide) k0) lk_M_268 (by first | with_reducible assumption | rfl) d_M_wantItem_4 rfl rfl (Nat.le_of_ble_eq_true rfl) (by decide) ?_
        refine r_if_eq d_M_wantItem_7 (fun h7 => ?_) (fun h7 => absurd rfl h7)
        refine r_aload_n 0 d_M_wantItem_14 rfl rfl ?_
        refine r_ldc2 kc_M_272 d_M_wantItem_15 ?_
        refine r_callVi (c_iw_n (q := 2) 1 (by decide) k2') lk_M_268 (by first | with_reducible assumption | rfl) d_M_wantItem_18 rfl rfl (Nat.le_of_ble_eq_true rfl) (by decide) ?_
        refine r_if_eq d_M_wantItem_21 (fun h21 => ?_) (fun h21 => absurd rfl h21)
        refine r_aload_n 0 d_M_wantItem_28 rfl rfl ?_
        refine r_ldc2 kc_M_274 d_M_wantItem_29 ?_
        refine r_callVi (c_iw_n (q := 3) 1 (by decide) k3') lk_M_268 (by first | with_reducible assumption | rfl) d_M_wantItem_32 rfl rfl (Nat.le_of_ble_eq_true rfl) (by decide) ?_
        refine r_if_eq d_M_wantItem_35 (fun h35 => ?_) (fun h35 => absurd rfl h35)
        refine r_iconst (-1) d_M_wantItem_42 rfl ?_
        refine r_istore_n 2 [_, _, _, _, _, _] d_M_wantItem_43 rfl (by decide) rfl ?_
        refine r_aload_n 0 d_M_wantItem_44 rfl rfl ?_
        refine r_iload_n 2 d_M_wantItem_45 rfl rfl ?_
        refine r_if_lt d_M_wantItem_46 (fun h46 => ?_) (fun h46 => absurd (by decide) h46)
        refine r_iconst 0 d_M_wantItem_59 rfl ?_
        refine r_putZ fp_M_259 (by first | with_reducible assumption | rfl) rfl (by first | exact Or.inl rfl | exact Or.inr rfl | assumption) d_M_wantItem_60 ?_
        refine Wa.eqM tg_17 ?_
        exact Wa.mono (bd_of rfl) (t_63 X _ _ _ _ _)
