/-! items and THE LESSON, by the reference -/
def fgM (μ : Me) (n : Nat) (a b e : Int32) : Me := uI (uI (uI μ 90 (3 * n) a) 90 (3 * n + 1) b) 90 (3 * n + 2) e
set_option maxHeartbeats 400000 in
theorem c_wi_ask_y {μ : Me} {u : Nat → Nat} {N p n : Nat} (h : TmB μ u N) (hp : p ≤ N) (hn : n < 12) (k0 : nmOk u N 0 p) (hk : askK u N (wE u N p)) : CtV m_M_wantItem 4 [.ref 82, .int (nI n)] (TG μ u N 1 p) (TG (fgM μ n 0 (prV u N (wE u N p)) (nI (nV u N (wE u N (prE u N (wE u N p)))))) u N 1 (sb u N (nE u N (wE u N (prE u N (wE u N p)))) + 1)) := by
  refine Ct.of (ls := [.ref 82, .int (nI n), flr, flr, flr, flr]) rfl (Nat.le_of_ble_eq_true rfl) rfl (fun X => ?_)
  obtain ⟨⟨⟨k1, k2⟩, k3⟩, k4, k5⟩ := hk
  have p1 := wE_le (u := u) hp
  have p2 := nE_le (u := u) p1
  have p3 : prE u N (wE u N p) ≤ N := nE_le (u := u) p2
  have p4 := wE_le (u := u) p3
  have p5 := nE_le (u := u) p4
  have a0 := c_adv h hp 1
  rw [tkE_w (q := 0) (by decide) k0] at a0
  have a3 := c_adv h p3 1
  rw [tkE_w (q := 1) (by decide) k3] at a3
  have a5 := c_adv h p5 1
  rw [tkE_s k5] at a5
  refine r_aload_n 0 d_M_wantItem_0 rfl rfl ?_
  refine r_ldc2 kc_M_266 d_M_wantItem_1 ?_
  refine r_callVi (c_iw_y (q := 0) 1 (by decide) k0) lk_M_268 (by first | with_reducible assumption | rfl) d_M_wantItem_4 rfl rfl (Nat.le_of_ble_eq_true rfl) (by decide) ?_
  refine r_if_eq d_M_wantItem_7 (fun h7 => absurd h7 (by decide)) (fun h7 => ?_)
  refine r_iconst 0 d_M_wantItem_10 rfl ?_
  refine r_goto d_M_wantItem_11 ?_
  refine r_istore_n 2 [_, _, _, _, _, _] d_M_wantItem_43 rfl (by decide) rfl ?_
  refine r_aload_n 0 d_M_wantItem_44 rfl rfl ?_
  refine r_iload_n 2 d_M_wantItem_45 rfl rfl ?_
  refine r_if_lt d_M_wantItem_46 (fun h46 => absurd h46 (by decide)) (fun h46 => ?_)
  refine r_iload_n 1 d_M_wantItem_49 rfl rfl ?_
  refine r_bipush (12) d_M_wantItem_50 (by decide) ?_
  refine r_icmp_ge d_M_wantItem_52 (fun h52 => absurd h52 (nI_ge (a := n) (b := 12) hn (by decide))) (fun h52 => ?_)
  refine r_iconst 1 d_M_wantItem_55 rfl ?_
  refine r_goto d_M_wantItem_56 ?_
  refine r_putZ fp_M_259 (by first | with_reducible assumption | rfl) rfl (by first | exact Or.inl rfl | exact Or.inr rfl | assumption) d_M_wantItem_60 ?_
  refine Wa.eqM tg_17 ?_
  refine r_aload_n 0 d_M_wantItem_63 rfl rfl ?_
  refine r_getI fl_M_259 (by first | with_reducible assumption | rfl) rfl d_M_wantItem_64 ?_
  rw [tg_r17]
  refine r_if_eq d_M_wantItem_67 (fun h67 => absurd h67 (by decide)) (fun h67 => ?_)
  refine r_aload_n 0 d_M_wantItem_70 rfl rfl ?_
  refine r_callVv a0 lk_M_263 (by first | with_reducible assumption | rfl) d_M_wantItem_71 rfl rfl (Nat.le_of_ble_eq_true rfl) (by decide) ?_
  refine r_aload_n 0 d_M_wantItem_74 rfl rfl ?_
  refine r_iload_n 2 d_M_wantItem_75 rfl rfl ?_
  refine r_iconst 2 d_M_wantItem_76 rfl ?_
  refine r_icmp_ne d_M_wantItem_77 (fun h77 => ?_) (fun h77 => absurd h77 (by decide))
  refine r_iconst 2 d_M_wantItem_84 rfl ?_
  refine r_bipush (9) d_M_wantItem_85 (by decide) ?_
  refine r_callVi (c_wn_y (lo := 2) (hi := 9) h p1 (by decide) (by decide) (by decide) k1) lk_M_276 (by first | with_reducible assumption | rfl) d_M_wantItem_87 rfl rfl (Nat.le_of_ble_eq_true rfl) (by decide) ?_
  refine r_istore_n 3 [_, _, _, _, _, _] d_M_wantItem_90 rfl (by decide) rfl ?_
  refine r_iload_n 2 d_M_wantItem_91 rfl rfl ?_
  refine r_iconst 2 d_M_wantItem_92 rfl ?_
  refine r_icmp_ne d_M_wantItem_93 (fun h93 => ?_) (fun h93 => absurd h93 (by decide))
  refine r_aload_n 0 d_M_wantItem_100 rfl rfl ?_
  refine r_iconst 2 d_M_wantItem_101 rfl ?_
  refine r_bipush (9) d_M_wantItem_102 (by decide) ?_
  refine r_callVi (c_wn_y (lo := 2) (hi := 9) h p2 (by decide) (by decide) (by decide) k2) lk_M_276 (by first | with_reducible assumption | rfl) d_M_wantItem_104 rfl rfl (Nat.le_of_ble_eq_true rfl) (by decide) ?_
  refine r_istore 4 [_, _, _, _, _, _] d_M_wantItem_107 (by decide) rfl ?_
  refine r_iconst 0 d_M_wantItem_109 rfl ?_
  refine r_istore 5 [_, _, _, _, _, _] d_M_wantItem_110 (by decide) rfl ?_
  refine r_iload_n 2 d_M_wantItem_112 rfl rfl ?_
  refine r_if_ne d_M_wantItem_113 (fun h113 => absurd rfl h113) (fun h113 => ?_)
  refine r_aload_n 0 d_M_wantItem_116 rfl rfl ?_
  refine r_aload_n 0 d_M_wantItem_117 rfl rfl ?_
  refine r_getI fl_M_259 (by first | with_reducible assumption | rfl) rfl d_M_wantItem_118 ?_
  rw [tg_r17]
  refine r_if_eq d_M_wantItem_121 (fun h121 => absurd h121 (by decide)) (fun h121 => ?_)
  refine r_aload_n 0 d_M_wantItem_124 rfl rfl ?_
  refine r_ldc2 kc_M_279 d_M_wantItem_125 ?_
  refine r_callVi (c_iw_y (q := 1) 1 (by decide) k3) lk_M_268 (by first | with_reducible assumption | rfl) d_M_wantItem_128 rfl rfl (Nat.le_of_ble_eq_true rfl) (by decide) ?_
  refine r_if_eq d_M_wantItem_131 (fun h131 => absurd h131 (by decide)) (fun h131 => ?_)
  refine r_iconst 1 d_M_wantItem_134 rfl ?_
  refine r_goto d_M_wantItem_135 ?_
  refine r_putZ fp_M_259 (by first | with_reducible assumption | rfl) rfl (by first | exact Or.inl rfl | exact Or.inr rfl | assumption) d_M_wantItem_139 ?_
  refine Wa.eqM tg_17 ?_
  refine r_aload_n 0 d_M_wantItem_142 rfl rfl ?_
  refine r_getI fl_M_259 (by first | with_reducible assumption | rfl) rfl d_M_wantItem_143 ?_
  rw [tg_r17]
  refine r_if_eq d_M_wantItem_146 (fun h146 => absurd h146 (by decide)) (fun h146 => ?_)
  refine r_aload_n 0 d_M_wantItem_149 rfl rfl ?_
  refine r_callVv a3 lk_M_263 (by first | with_reducible assumption | rfl) d_M_wantItem_150 rfl rfl (Nat.le_of_ble_eq_true rfl) (by decide) ?_
  refine r_aload_n 0 d_M_wantItem_153 rfl rfl ?_
  refine r_iconst 1 d_M_wantItem_154 rfl ?_
  refine r_bipush (9) d_M_wantItem_155 (by decide) ?_
  refine r_callVi (c_wn_y (lo := 1) (hi := 9) h p4 (by decide) (by decide) (by decide) k4) lk_M_276 (by first | with_reducible assumption | rfl) d_M_wantItem_157 rfl rfl (Nat.le_of_ble_eq_true rfl) (by decide) ?_
  refine r_istore 5 [_, _, _, _, _, _] d_M_wantItem_160 (by decide) rfl ?_
  refine r_aload_n 0 d_M_wantItem_162 rfl rfl ?_
  refine r_aload_n 0 d_M_wantItem_163 rfl rfl ?_
  refine r_getI fl_M_259 (by first | with_reducible assumption | rfl) rfl d_M_wantItem_164 ?_
  rw [tg_r17]
  refine r_if_eq d_M_wantItem_167 (fun h167 => absurd h167 (by decide)) (fun h167 => ?_)
  refine r_aload_n 0 d_M_wantItem_170 rfl rfl ?_
  refine r_bipush (59) d_M_wantItem_171 (by decide) ?_
  refine r_callVi (c_im_y h 1 k5) lk_M_281 (by first | with_reducible assumption | rfl) d_M_wantItem_173 rfl rfl (Nat.le_of_ble_eq_true rfl) (by decide) ?_
  refine r_if_eq d_M_wantItem_176 (fun h176 => absurd h176 (by decide)) (fun h176 => ?_)
  refine r_iconst 1 d_M_wantItem_179 rfl ?_
  refine r_goto d_M_wantItem_180 ?_
  refine r_putZ fp_M_259 (by first | with_reducible assumption | rfl) rfl (by first | exact Or.inl rfl | exact Or.inr rfl | assumption) d_M_wantItem_184 ?_
  refine Wa.eqM tg_17 ?_
  refine r_aload_n 0 d_M_wantItem_187 rfl rfl ?_
  refine r_getI fl_M_259 (by first | with_reducible assumption | rfl) rfl d_M_wantItem_188 ?_
  rw [tg_r17]
  refine r_if_eq d_M_wantItem_191 (fun h191 => absurd h191 (by decide)) (fun h191 => ?_)
  refine r_aload_n 0 d_M_wantItem_194 rfl rfl ?_
  refine r_callVv a5 lk_M_263 (by first | with_reducible assumption | rfl) d_M_wantItem_195 rfl rfl (Nat.le_of_ble_eq_true rfl) (by decide) ?_
  refine r_aload_n 0 d_M_wantItem_198 rfl rfl ?_
  refine r_getR fl_M_35 (by first | with_reducible assumption | rfl) rfl d_M_wantItem_199 ?_
  refine r_iconst 3 d_M_wantItem_202 rfl ?_
  refine r_iload_n 1 d_M_wantItem_203 rfl rfl ?_
  refine r_imul d_M_wantItem_204 ?_
  rw [mul3]
  refine r_iload_n 2 d_M_wantItem_205 rfl rfl ?_
  refine r_iastN (by first | with_reducible assumption | rfl) (show 3 * n < 36 by omega) d_M_wantItem_206 ?_
  refine Wa.eqM tg_90 ?_
  refine r_aload_n 0 d_M_wantItem_207 rfl rfl ?_
  refine r_getR fl_M_35 (by first | with_reducible assumption | rfl) rfl d_M_wantItem_208 ?_
  refine r_iconst 3 d_M_wantItem_211 rfl ?_
  refine r_iload_n 1 d_M_wantItem_212 rfl rfl ?_
  refine r_imul d_M_wantItem_213 ?_
  refine r_iconst 1 d_M_wantItem_214 rfl ?_
  refine r_iadd d_M_wantItem_215 ?_
  rw [mul3, nI_1]
  refine r_iload_n 2 d_M_wantItem_216 rfl rfl ?_
  refine r_iconst 2 d_M_wantItem_217 rfl ?_
  refine r_icmp_ne d_M_wantItem_218 (fun h218 => ?_) (fun h218 => absurd h218 (by decide))
  refine r_iload_n 3 d_M_wantItem_225 rfl rfl ?_
  refine r_iload 4 d_M_wantItem_226 rfl ?_
  refine r_callSi (c_M_pairBy _ _ _) lk_M_83 d_M_wantItem_228 rfl rfl (Nat.le_of_ble_eq_true rfl) (by decide) ?_
  refine r_iastN (by first | with_reducible assumption | rfl) (show 3 * n + 1 < 36 by omega) d_M_wantItem_231 ?_
  refine Wa.eqM tg_90 ?_
  refine r_aload_n 0 d_M_wantItem_232 rfl rfl ?_
  refine r_getR fl_M_35 (by first | with_reducible assumption | rfl) rfl d_M_wantItem_233 ?_
  refine r_iconst 3 d_M_wantItem_236 rfl ?_
  refine r_iload_n 1 d_M_wantItem_237 rfl rfl ?_
  refine r_imul d_M_wantItem_238 ?_
  refine r_iconst 2 d_M_wantItem_239 rfl ?_
  refine r_iadd d_M_wantItem_240 ?_
  rw [mul3, add2]
  refine r_iload 5 d_M_wantItem_241 rfl ?_
  refine r_iastN (by first | with_reducible assumption | rfl) (show 3 * n + 2 < 36 by omega) d_M_wantItem_243 ?_
  refine Wa.eqM tg_90 ?_
  refine r_ret d_M_wantItem_244 rfl ?_
  exact ⟨rfl, rfl⟩
set_option maxHeartbeats 400000 in
theorem c_wi_tel_y {μ : Me} {u : Nat → Nat} {N p n : Nat} (h : TmB μ u N) (hp : p ≤ N) (hn : n < 12) (k00 : ¬ nmOk u N 0 p) (k0 : nmOk u N 2 p) (hk : telK u N (wE u N p)) : CtV m_M_wantItem 4 [.ref 82, .int (nI n)] (TG μ u N 1 p) (TG (fgM μ n 1 (prV u N (wE u N p)) 0) u N 1 (sb u N (prE u N (wE u N p)) + 1)) := by
  refine Ct.of (ls := [.ref 82, .int (nI n), flr, flr, flr, flr]) rfl (Nat.le_of_ble_eq_true rfl) rfl (fun X => ?_)
  obtain ⟨⟨k1, k2⟩, k5⟩ := hk
  have p1 := wE_le (u := u) hp
  have p2 := nE_le (u := u) p1
  have p3 : prE u N (wE u N p) ≤ N := nE_le (u := u) p2
  have a0 := c_adv h hp 1
  rw [tkE_w (q := 2) (by decide) k0] at a0
  have a5 := c_adv h p3 1
  rw [tkE_s k5] at a5
  refine r_aload_n 0 d_M_wantItem_0 rfl rfl ?_
  refine r_ldc2 kc_M_266 d_M_wantItem_1 ?_
  refine r_callVi (c_iw_n (q := 0) 1 (by decide) k00) lk_M_268 (by first | with_reducible assumption | rfl) d_M_wantItem_4 rfl rfl (Nat.le_of_ble_eq_true rfl) (by decide) ?_
  refine r_if_eq d_M_wantItem_7 (fun h7 => ?_) (fun h7 => absurd rfl h7)
  refine r_aload_n 0 d_M_wantItem_14 rfl rfl ?_
  refine r_ldc2 kc_M_272 d_M_wantItem_15 ?_
  refine r_callVi (c_iw_y (q := 2) 1 (by decide) k0) lk_M_268 (by first | with_reducible assumption | rfl) d_M_wantItem_18 rfl rfl (Nat.le_of_ble_eq_true rfl) (by decide) ?_
  refine r_if_eq d_M_wantItem_21 (fun h21 => absurd h21 (by decide)) (fun h21 => ?_)
  refine r_iconst 1 d_M_wantItem_24 rfl ?_
  refine r_goto d_M_wantItem_25 ?_
  refine r_istore_n 2 [_, _, _, _, _, _] d_M_wantItem_43 rfl (by decide) rfl ?_
  refine r_aload_n 0 d_M_wantItem_44 rfl rfl ?_
  refine r_iload_n 2 d_M_wantItem_45 rfl rfl ?_
  refine r_if_lt d_M_wantItem_46 (fun h46 => absurd h46 (by decide)) (fun h46 => ?_)
  refine r_iload_n 1 d_M_wantItem_49 rfl rfl ?_
  refine r_bipush (12) d_M_wantItem_50 (by decide) ?_
  refine r_icmp_ge d_M_wantItem_52 (fun h52 => absurd h52 (nI_ge (a := n) (b := 12) hn (by decide))) (fun h52 => ?_)
  refine r_iconst 1 d_M_wantItem_55 rfl ?_
  refine r_goto d_M_wantItem_56 ?_
  refine r_putZ fp_M_259 (by first | with_reducible assumption | rfl) rfl (by first | exact Or.inl rfl | exact Or.inr rfl | assumption) d_M_wantItem_60 ?_
  refine Wa.eqM tg_17 ?_
  refine r_aload_n 0 d_M_wantItem_63 rfl rfl ?_
  refine r_getI fl_M_259 (by first | with_reducible assumption | rfl) rfl d_M_wantItem_64 ?_
  rw [tg_r17]
  refine r_if_eq d_M_wantItem_67 (fun h67 => absurd h67 (by decide)) (fun h67 => ?_)
  refine r_aload_n 0 d_M_wantItem_70 rfl rfl ?_
  refine r_callVv a0 lk_M_263 (by first | with_reducible assumption | rfl) d_M_wantItem_71 rfl rfl (Nat.le_of_ble_eq_true rfl) (by decide) ?_
  refine r_aload_n 0 d_M_wantItem_74 rfl rfl ?_
  refine r_iload_n 2 d_M_wantItem_75 rfl rfl ?_
  refine r_iconst 2 d_M_wantItem_76 rfl ?_
  refine r_icmp_ne d_M_wantItem_77 (fun h77 => ?_) (fun h77 => absurd h77 (by decide))
  refine r_iconst 2 d_M_wantItem_84 rfl ?_
  refine r_bipush (9) d_M_wantItem_85 (by decide) ?_
  refine r_callVi (c_wn_y (lo := 2) (hi := 9) h p1 (by decide) (by decide) (by decide) k1) lk_M_276 (by first | with_reducible assumption | rfl) d_M_wantItem_87 rfl rfl (Nat.le_of_ble_eq_true rfl) (by decide) ?_
  refine r_istore_n 3 [_, _, _, _, _, _] d_M_wantItem_90 rfl (by decide) rfl ?_
  refine r_iload_n 2 d_M_wantItem_91 rfl rfl ?_
  refine r_iconst 2 d_M_wantItem_92 rfl ?_
  refine r_icmp_ne d_M_wantItem_93 (fun h93 => ?_) (fun h93 => absurd h93 (by decide))
  refine r_aload_n 0 d_M_wantItem_100 rfl rfl ?_
  refine r_iconst 2 d_M_wantItem_101 rfl ?_
  refine r_bipush (9) d_M_wantItem_102 (by decide) ?_
  refine r_callVi (c_wn_y (lo := 2) (hi := 9) h p2 (by decide) (by decide) (by decide) k2) lk_M_276 (by first | with_reducible assumption | rfl) d_M_wantItem_104 rfl rfl (Nat.le_of_ble_eq_true rfl) (by decide) ?_
  refine r_istore 4 [_, _, _, _, _, _] d_M_wantItem_107 (by decide) rfl ?_
  refine r_iconst 0 d_M_wantItem_109 rfl ?_
  refine r_istore 5 [_, _, _, _, _, _] d_M_wantItem_110 (by decide) rfl ?_
  refine r_iload_n 2 d_M_wantItem_112 rfl rfl ?_
  refine r_if_ne d_M_wantItem_113 (fun h113 => ?_) (fun h113 => absurd h113 (by decide))
  refine r_aload_n 0 d_M_wantItem_162 rfl rfl ?_
  refine r_aload_n 0 d_M_wantItem_163 rfl rfl ?_
  refine r_getI fl_M_259 (by first | with_reducible assumption | rfl) rfl d_M_wantItem_164 ?_
  rw [tg_r17]
  refine r_if_eq d_M_wantItem_167 (fun h167 => absurd h167 (by decide)) (fun h167 => ?_)
  refine r_aload_n 0 d_M_wantItem_170 rfl rfl ?_
  refine r_bipush (59) d_M_wantItem_171 (by decide) ?_
  refine r_callVi (c_im_y h 1 k5) lk_M_281 (by first | with_reducible assumption | rfl) d_M_wantItem_173 rfl rfl (Nat.le_of_ble_eq_true rfl) (by decide) ?_
  refine r_if_eq d_M_wantItem_176 (fun h176 => absurd h176 (by decide)) (fun h176 => ?_)
  refine r_iconst 1 d_M_wantItem_179 rfl ?_
  refine r_goto d_M_wantItem_180 ?_
  refine r_putZ fp_M_259 (by first | with_reducible assumption | rfl) rfl (by first | exact Or.inl rfl | exact Or.inr rfl | assumption) d_M_wantItem_184 ?_
  refine Wa.eqM tg_17 ?_
  refine r_aload_n 0 d_M_wantItem_187 rfl rfl ?_
  refine r_getI fl_M_259 (by first | with_reducible assumption | rfl) rfl d_M_wantItem_188 ?_
  rw [tg_r17]
  refine r_if_eq d_M_wantItem_191 (fun h191 => absurd h191 (by decide)) (fun h191 => ?_)
  refine r_aload_n 0 d_M_wantItem_194 rfl rfl ?_
  refine r_callVv a5 lk_M_263 (by first | with_reducible assumption | rfl) d_M_wantItem_195 rfl rfl (Nat.le_of_ble_eq_true rfl) (by decide) ?_
  refine r_aload_n 0 d_M_wantItem_198 rfl rfl ?_
  refine r_getR fl_M_35 (by first | with_reducible assumption | rfl) rfl d_M_wantItem_199 ?_
  refine r_iconst 3 d_M_wantItem_202 rfl ?_
  refine r_iload_n 1 d_M_wantItem_203 rfl rfl ?_
  refine r_imul d_M_wantItem_204 ?_
  rw [mul3]
  refine r_iload_n 2 d_M_wantItem_205 rfl rfl ?_
  refine r_iastN (by first | with_reducible assumption | rfl) (show 3 * n < 36 by omega) d_M_wantItem_206 ?_
  refine Wa.eqM tg_90 ?_
  refine r_aload_n 0 d_M_wantItem_207 rfl rfl ?_
  refine r_getR fl_M_35 (by first | with_reducible assumption | rfl) rfl d_M_wantItem_208 ?_
  refine r_iconst 3 d_M_wantItem_211 rfl ?_
  refine r_iload_n 1 d_M_wantItem_212 rfl rfl ?_
  refine r_imul d_M_wantItem_213 ?_
  refine r_iconst 1 d_M_wantItem_214 rfl ?_
  refine r_iadd d_M_wantItem_215 ?_
  rw [mul3, nI_1]
  refine r_iload_n 2 d_M_wantItem_216 rfl rfl ?_
  refine r_iconst 2 d_M_wantItem_217 rfl ?_
  refine r_icmp_ne d_M_wantItem_218 (fun h218 => ?_) (fun h218 => absurd h218 (by decide))
  refine r_iload_n 3 d_M_wantItem_225 rfl rfl ?_
  refine r_iload 4 d_M_wantItem_226 rfl ?_
  refine r_callSi (c_M_pairBy _ _ _) lk_M_83 d_M_wantItem_228 rfl rfl (Nat.le_of_ble_eq_true rfl) (by decide) ?_
  refine r_iastN (by first | with_reducible assumption | rfl) (show 3 * n + 1 < 36 by omega) d_M_wantItem_231 ?_
  refine Wa.eqM tg_90 ?_
  refine r_aload_n 0 d_M_wantItem_232 rfl rfl ?_
  refine r_getR fl_M_35 (by first | with_reducible assumption | rfl) rfl d_M_wantItem_233 ?_
  refine r_iconst 3 d_M_wantItem_236 rfl ?_
  refine r_iload_n 1 d_M_wantItem_237 rfl rfl ?_
  refine r_imul d_M_wantItem_238 ?_
  refine r_iconst 2 d_M_wantItem_239 rfl ?_
  refine r_iadd d_M_wantItem_240 ?_
  rw [mul3, add2]
  refine r_iload 5 d_M_wantItem_241 rfl ?_
  refine r_iastN (by first | with_reducible assumption | rfl) (show 3 * n + 2 < 36 by omega) d_M_wantItem_243 ?_
  refine Wa.eqM tg_90 ?_
  refine r_ret d_M_wantItem_244 rfl ?_
  exact ⟨rfl, rfl⟩
set_option maxHeartbeats 400000 in
theorem c_wi_rst_y {μ : Me} {u : Nat → Nat} {N p n : Nat} (h : TmB μ u N) (hp : p ≤ N) (hn : n < 12) (k00 : ¬ nmOk u N 0 p) (k02 : ¬ nmOk u N 2 p) (k0 : nmOk u N 3 p) (hk : rstK u N (wE u N p)) : CtV m_M_wantItem 4 [.ref 82, .int (nI n)] (TG μ u N 1 p) (TG (fgM μ n 2 (nI (nV u N (wE u N p))) 0) u N 1 (sb u N (nE u N (wE u N p)) + 1)) := by
  refine Ct.of (ls := [.ref 82, .int (nI n), flr, flr, flr, flr]) rfl (Nat.le_of_ble_eq_true rfl) rfl (fun X => ?_)
  obtain ⟨k1, k5⟩ := hk
  have p1 := wE_le (u := u) hp
  have p2 := nE_le (u := u) p1
  have a0 := c_adv h hp 1
  rw [tkE_w (q := 3) (by decide) k0] at a0
  have a5 := c_adv h p2 1
  rw [tkE_s k5] at a5
  refine r_aload_n 0 d_M_wantItem_0 rfl rfl ?_
  refine r_ldc2 kc_M_266 d_M_wantItem_1 ?_
  refine r_callVi (c_iw_n (q := 0) 1 (by decide) k00) lk_M_268 (by first | with_reducible assumption | rfl) d_M_wantItem_4 rfl rfl (Nat.le_of_ble_eq_true rfl) (by decide) ?_
  refine r_if_eq d_M_wantItem_7 (fun h7 => ?_) (fun h7 => absurd rfl h7)
  refine r_aload_n 0 d_M_wantItem_14 rfl rfl ?_
  refine r_ldc2 kc_M_272 d_M_wantItem_15 ?_
  refine r_callVi (c_iw_n (q := 2) 1 (by decide) k02) lk_M_268 (by first | with_reducible assumption | rfl) d_M_wantItem_18 rfl rfl (Nat.le_of_ble_eq_true rfl) (by decide) ?_
  refine r_if_eq d_M_wantItem_21 (fun h21 => ?_) (fun h21 => absurd rfl h21)
  refine r_aload_n 0 d_M_wantItem_28 rfl rfl ?_
  refine r_ldc2 kc_M_274 d_M_wantItem_29 ?_
  refine r_callVi (c_iw_y (q := 3) 1 (by decide) k0) lk_M_268 (by first | with_reducible assumption | rfl) d_M_wantItem_32 rfl rfl (Nat.le_of_ble_eq_true rfl) (by decide) ?_
  refine r_if_eq d_M_wantItem_35 (fun h35 => absurd h35 (by decide)) (fun h35 => ?_)
  refine r_iconst 2 d_M_wantItem_38 rfl ?_
  refine r_goto d_M_wantItem_39 ?_
  refine r_istore_n 2 [_, _, _, _, _, _] d_M_wantItem_43 rfl (by decide) rfl ?_
  refine r_aload_n 0 d_M_wantItem_44 rfl rfl ?_
  refine r_iload_n 2 d_M_wantItem_45 rfl rfl ?_
  refine r_if_lt d_M_wantItem_46 (fun h46 => absurd h46 (by decide)) (fun h46 => ?_)
  refine r_iload_n 1 d_M_wantItem_49 rfl rfl ?_
  refine r_bipush (12) d_M_wantItem_50 (by decide) ?_
  refine r_icmp_ge d_M_wantItem_52 (fun h52 => absurd h52 (nI_ge (a := n) (b := 12) hn (by decide))) (fun h52 => ?_)
  refine r_iconst 1 d_M_wantItem_55 rfl ?_
  refine r_goto d_M_wantItem_56 ?_
  refine r_putZ fp_M_259 (by first | with_reducible assumption | rfl) rfl (by first | exact Or.inl rfl | exact Or.inr rfl | assumption) d_M_wantItem_60 ?_
  refine Wa.eqM tg_17 ?_
  refine r_aload_n 0 d_M_wantItem_63 rfl rfl ?_
  refine r_getI fl_M_259 (by first | with_reducible assumption | rfl) rfl d_M_wantItem_64 ?_
  rw [tg_r17]
  refine r_if_eq d_M_wantItem_67 (fun h67 => absurd h67 (by decide)) (fun h67 => ?_)
  refine r_aload_n 0 d_M_wantItem_70 rfl rfl ?_
  refine r_callVv a0 lk_M_263 (by first | with_reducible assumption | rfl) d_M_wantItem_71 rfl rfl (Nat.le_of_ble_eq_true rfl) (by decide) ?_
  refine r_aload_n 0 d_M_wantItem_74 rfl rfl ?_
  refine r_iload_n 2 d_M_wantItem_75 rfl rfl ?_
  refine r_iconst 2 d_M_wantItem_76 rfl ?_
  refine r_icmp_ne d_M_wantItem_77 (fun h77 => absurd rfl h77) (fun h77 => ?_)
  refine r_iconst 1 d_M_wantItem_80 rfl ?_
  refine r_goto d_M_wantItem_81 ?_
  refine r_bipush (9) d_M_wantItem_85 (by decide) ?_
  refine r_callVi (c_wn_y (lo := 1) (hi := 9) h p1 (by decide) (by decide) (by decide) k1) lk_M_276 (by first | with_reducible assumption | rfl) d_M_wantItem_87 rfl rfl (Nat.le_of_ble_eq_true rfl) (by decide) ?_
  refine r_istore_n 3 [_, _, _, _, _, _] d_M_wantItem_90 rfl (by decide) rfl ?_
  refine r_iload_n 2 d_M_wantItem_91 rfl rfl ?_
  refine r_iconst 2 d_M_wantItem_92 rfl ?_
  refine r_icmp_ne d_M_wantItem_93 (fun h93 => absurd rfl h93) (fun h93 => ?_)
  refine r_iconst 0 d_M_wantItem_96 rfl ?_
  refine r_goto d_M_wantItem_97 ?_
  refine r_istore 4 [_, _, _, _, _, _] d_M_wantItem_107 (by decide) rfl ?_
  refine r_iconst 0 d_M_wantItem_109 rfl ?_
  refine r_istore 5 [_, _, _, _, _, _] d_M_wantItem_110 (by decide) rfl ?_
  refine r_iload_n 2 d_M_wantItem_112 rfl rfl ?_
  refine r_if_ne d_M_wantItem_113 (fun h113 => ?_) (fun h113 => absurd h113 (by decide))
  refine r_aload_n 0 d_M_wantItem_162 rfl rfl ?_
  refine r_aload_n 0 d_M_wantItem_163 rfl rfl ?_
  refine r_getI fl_M_259 (by first | with_reducible assumption | rfl) rfl d_M_wantItem_164 ?_
  rw [tg_r17]
  refine r_if_eq d_M_wantItem_167 (fun h167 => absurd h167 (by decide)) (fun h167 => ?_)
  refine r_aload_n 0 d_M_wantItem_170 rfl rfl ?_
  refine r_bipush (59) d_M_wantItem_171 (by decide) ?_
  refine r_callVi (c_im_y h 1 k5) lk_M_281 (by first | with_reducible assumption | rfl) d_M_wantItem_173 rfl rfl (Nat.le_of_ble_eq_true rfl) (by decide) ?_
  refine r_if_eq d_M_wantItem_176 (fun h176 => absurd h176 (by decide)) (fun h176 => ?_)
  refine r_iconst 1 d_M_wantItem_179 rfl ?_
  refine r_goto d_M_wantItem_180 ?_
  refine r_putZ fp_M_259 (by first | with_reducible assumption | rfl) rfl (by first | exact Or.inl rfl | exact Or.inr rfl | assumption) d_M_wantItem_184 ?_
  refine Wa.eqM tg_17 ?_
  refine r_aload_n 0 d_M_wantItem_187 rfl rfl ?_
  refine r_getI fl_M_259 (by first | with_reducible assumption | rfl) rfl d_M_wantItem_188 ?_
  rw [tg_r17]
  refine r_if_eq d_M_wantItem_191 (fun h191 => absurd h191 (by decide)) (fun h191 => ?_)
  refine r_aload_n 0 d_M_wantItem_194 rfl rfl ?_
  refine r_callVv a5 lk_M_263 (by first | with_reducible assumption | rfl) d_M_wantItem_195 rfl rfl (Nat.le_of_ble_eq_true rfl) (by decide) ?_
  refine r_aload_n 0 d_M_wantItem_198 rfl rfl ?_
  refine r_getR fl_M_35 (by first | with_reducible assumption | rfl) rfl d_M_wantItem_199 ?_
  refine r_iconst 3 d_M_wantItem_202 rfl ?_
  refine r_iload_n 1 d_M_wantItem_203 rfl rfl ?_
  refine r_imul d_M_wantItem_204 ?_
  rw [mul3]
  refine r_iload_n 2 d_M_wantItem_205 rfl rfl ?_
  refine r_iastN (by first | with_reducible assumption | rfl) (show 3 * n < 36 by omega) d_M_wantItem_206 ?_
  refine Wa.eqM tg_90 ?_
  refine r_aload_n 0 d_M_wantItem_207 rfl rfl ?_
  refine r_getR fl_M_35 (by first | with_reducible assumption | rfl) rfl d_M_wantItem_208 ?_
  refine r_iconst 3 d_M_wantItem_211 rfl ?_
  refine r_iload_n 1 d_M_wantItem_212 rfl rfl ?_
  refine r_imul d_M_wantItem_213 ?_
  refine r_iconst 1 d_M_wantItem_214 rfl ?_
  refine r_iadd d_M_wantItem_215 ?_
  rw [mul3, nI_1]
  refine r_iload_n 2 d_M_wantItem_216 rfl rfl ?_
  refine r_iconst 2 d_M_wantItem_217 rfl ?_
  refine r_icmp_ne d_M_wantItem_218 (fun h218 => absurd rfl h218) (fun h218 => ?_)
  refine r_iload_n 3 d_M_wantItem_221 rfl rfl ?_
  refine r_goto d_M_wantItem_222 ?_
  refine r_iastN (by first | with_reducible assumption | rfl) (show 3 * n + 1 < 36 by omega) d_M_wantItem_231 ?_
  refine Wa.eqM tg_90 ?_
  refine r_aload_n 0 d_M_wantItem_232 rfl rfl ?_
  refine r_getR fl_M_35 (by first | with_reducible assumption | rfl) rfl d_M_wantItem_233 ?_
  refine r_iconst 3 d_M_wantItem_236 rfl ?_
  refine r_iload_n 1 d_M_wantItem_237 rfl rfl ?_
  refine r_imul d_M_wantItem_238 ?_
  refine r_iconst 2 d_M_wantItem_239 rfl ?_
  refine r_iadd d_M_wantItem_240 ?_
  rw [mul3, add2]
  refine r_iload 5 d_M_wantItem_241 rfl ?_
  refine r_iastN (by first | with_reducible assumption | rfl) (show 3 * n + 2 < 36 by omega) d_M_wantItem_243 ?_
  refine Wa.eqM tg_90 ?_
  refine r_ret d_M_wantItem_244 rfl ?_
  exact ⟨rfl, rfl⟩
set_option maxHeartbeats 400000 in
theorem c_wi_y {μ : Me} {u : Nat → Nat} {N p n : Nat} (h : TmB μ u N) (hp : p ≤ N) (hn : n < 12) (hk : itK u N p) : CtV m_M_wantItem 4 [.ref 82, .int (nI n)] (TG μ u N 1 p) (TG (fgM μ n (itV u N p).1 (itV u N p).2.1 (itV u N p).2.2) u N 1 (itE u N p)) := by
  unfold itK at hk
  by_cases k0 : nmOk u N 0 p
  · rw [if_pos k0] at hk
    rw [itE, itV, if_pos k0, if_pos k0]
    exact c_wi_ask_y h hp hn k0 hk
  · rw [if_neg k0] at hk
    by_cases k2 : nmOk u N 2 p
    · rw [if_pos k2] at hk
      rw [itE, itV, if_neg k0, if_neg k0, if_pos k2, if_pos k2]
      exact c_wi_tel_y h hp hn k0 k2 hk
    · rw [if_neg k2] at hk
      by_cases k3 : nmOk u N 3 p
      · rw [if_pos k3] at hk
        rw [itE, itV, if_neg k0, if_neg k0, if_neg k2, if_neg k2]
        exact c_wi_rst_y h hp hn k0 k2 k3 hk
      · rw [if_neg k3] at hk
        exact hk.elim
