/-! the reference goes on to the next token -/
theorem TmB.u256 {μ : Me} {u : Nat → Nat} {N k : Nat} (h : TmB μ u N) : k < N → u k < 256 := fun hk => (h.2.2 k hk).1
set_option maxHeartbeats 400000 in
theorem c_adv_sk (X : Nat × (Nat → Int32)) {μ : Me} {u : Nat → Nat} {N p : Nat} (h : TmB μ u N) (e s v : Int32) (w : Int64) (post : Option Value → Me → Prop) (hk : Wa X m_M_advance 2 34 [.ref 82, flr] [] (tkM μ (nI (sb u N p)) e s v w) post) : ∀ k i, N - i = k → i ≤ N → sb u N i = sb u N p → Wa X m_M_advance 2 8 [.ref 82, flr] [] (tkM μ (nI i) e s v w) post := by
  intro k
  induction k with
  | zero =>
    intro i hi hN hs
    have hst : sb u N i = i := sc_stop (fun z => by omega)
    have hb : ¬ byN u N i = 32 := fun z => by have := (by_32 h.u256).mp z; omega
    rw [← hs, hst] at hk
    refine r_aload_n 0 d_M_advance_8 rfl rfl ?_
    refine r_aload_n 0 d_M_advance_9 rfl rfl ?_
    refine r_getI fl_M_233 (by first | with_reducible assumption | rfl) rfl d_M_advance_10 ?_
    rw [tk_r13]
    refine r_callVi (c_M_byteAt (h.tk _ _ _ _ _) i hN) lk_M_236 (by first | with_reducible assumption | rfl) d_M_advance_13 rfl rfl (Nat.le_of_ble_eq_true rfl) (by decide) ?_
    refine r_bipush (32) d_M_advance_16 (by decide) ?_
    refine r_icmp_ne d_M_advance_18 (fun h18 => ?_) (fun h18 => absurd h18 hb)
    exact hk
  | succ k ih =>
    intro i hi hN hs
    by_cases hb : i < N ∧ u i = 32
    · have hst : sb u N i = sb u N (i + 1) := sc_go ⟨hb.1, by rw [blP]; exact decide_eq_true hb.2⟩
      have ih1 := ih (i + 1) (by omega) (by omega) (by rw [← hst]; exact hs)
      refine r_aload_n 0 d_M_advance_8 rfl rfl ?_
      refine r_aload_n 0 d_M_advance_9 rfl rfl ?_
      refine r_getI fl_M_233 (by first | with_reducible assumption | rfl) rfl d_M_advance_10 ?_
      rw [tk_r13]
      refine r_callVi (c_M_byteAt (h.tk _ _ _ _ _) i hN) lk_M_236 (by first | with_reducible assumption | rfl) d_M_advance_13 rfl rfl (Nat.le_of_ble_eq_true rfl) (by decide) ?_
      refine r_bipush (32) d_M_advance_16 (by decide) ?_
      refine r_icmp_ne d_M_advance_18 (fun h18 => absurd ((by_32 h.u256).mpr hb) h18) (fun h18 => ?_)
      refine r_aload_n 0 d_M_advance_21 rfl rfl ?_
      refine r_dup d_M_advance_22 rfl ?_
      refine r_getI fl_M_233 (by first | with_reducible assumption | rfl) rfl d_M_advance_23 ?_
      rw [tk_r13]
      refine r_iconst 1 d_M_advance_26 rfl ?_
      refine r_iadd d_M_advance_27 ?_
      rw [nI_1]
      refine r_putI fp_M_233 (by first | with_reducible assumption | rfl) rfl d_M_advance_28 ?_
      refine r_goto d_M_advance_31 ?_
      refine Wa.eqM tk_13 ?_
      exact ih1
    · have hst : sb u N i = i := sc_stop (fun z => hb ⟨z.1, by have := z.2; rw [blP] at this; exact of_decide_eq_true this⟩)
      rw [← hs, hst] at hk
      refine r_aload_n 0 d_M_advance_8 rfl rfl ?_
      refine r_aload_n 0 d_M_advance_9 rfl rfl ?_
      refine r_getI fl_M_233 (by first | with_reducible assumption | rfl) rfl d_M_advance_10 ?_
      rw [tk_r13]
      refine r_callVi (c_M_byteAt (h.tk _ _ _ _ _) i hN) lk_M_236 (by first | with_reducible assumption | rfl) d_M_advance_13 rfl rfl (Nat.le_of_ble_eq_true rfl) (by decide) ?_
      refine r_bipush (32) d_M_advance_16 (by decide) ?_
      refine r_icmp_ne d_M_advance_18 (fun h18 => ?_) (fun h18 => absurd h18 (fun z => hb ((by_32 h.u256).mp z)))
      exact hk
theorem by_n {u : Nat → Nat} {N k : Nat} (h : k < N) : byN u N k = nI (u k) := by rw [byN, if_pos h]
theorem by_let {u : Nat → Nat} {N k : Nat} (hu : k < N → u k < 256) : (97 ≤ byN u N k ∧ byN u N k ≤ 122) ↔ k < N ∧ isLt u k := by_rng (lo := 97) (hi := 122) hu (by decide) (by decide)
theorem by_dig {u : Nat → Nat} {N k : Nat} (hu : k < N → u k < 256) : (48 ≤ byN u N k ∧ byN u N k ≤ 57) ↔ k < N ∧ isDg u k := by_rng (lo := 48) (hi := 57) hu (by decide) (by decide)
theorem wd_e {a x : Nat} (h : 97 ≤ x ∧ x ≤ 122) : 27 * lN a + (nI x).toInt64 - 96 = lN (27 * a + (x - 96)) := by
  rw [nI_l (by omega)]
  show lN 27 * lN a + lN x - lN 96 = _
  rw [lN_mul, lN_add, lN_sub (by omega), show 27 * a + x - 96 = 27 * a + (x - 96) by omega]
theorem dv_e {a x : Nat} (h : 48 ≤ x ∧ x ≤ 57) : 10 * nI a + nI x - 48 = nI (a * 10 + (x - 48)) := by
  show nI 10 * nI a + nI x - nI 48 = _
  rw [pk_mul, nI_add, pk_sub (by omega), show 10 * a + x - 48 = a * 10 + (x - 48) by omega]
theorem sub_k {b k : Nat} : nI (b + k) - nI b = nI k := by rw [pk_sub (by omega), show b + k - b = k by omega]
set_option maxHeartbeats 400000 in
theorem c_adv_w (X : Nat × (Nat → Int32)) {μ : Me} {u : Nat → Nat} {N p : Nat} (h : TmB μ u N) (hp : p ≤ N) (bb v : Int32) (post : Option Value → Me → Prop) (hk : Wa X m_M_advance 2 207 [.ref 82, .int bb] [] (tkM μ (nI (sb u N p)) (nI (wE u N p)) 1 v (wdK u (sb u N p) (wE u N p - sb u N p))) post) : ∀ r k, k + r = wE u N p - sb u N p → Wa X m_M_advance 2 126 [.ref 82, .int bb] [] (tkM μ (nI (sb u N p)) (nI (sb u N p + k)) 1 v (wdK u (sb u N p) k)) post := by
  have h200 := h.2.1
  have hge := wE_ge (u := u) (N := N) (i := p)
  have hle := wE_le (u := u) hp
  intro r
  induction r with
  | zero =>
    intro k hr
    have e1 : sb u N p + k = wE u N p := by omega
    have hstop : ¬ (97 ≤ byN u N (wE u N p) ∧ byN u N (wE u N p) ≤ 122) := fun z => by
      have z2 := (by_let h.u256).mp z
      exact sc_end (P := ltP u) (N := N) (i := sb u N p) ⟨z2.1, decide_eq_true z2.2⟩
    obtain rfl : k = wE u N p - sb u N p := by omega
    rw [e1]
    refine r_aload_n 0 d_M_advance_126 rfl rfl ?_
    refine r_getI fl_M_245 (by first | with_reducible assumption | rfl) rfl d_M_advance_127 ?_
    rw [tk_r12]
    refine r_iconst 1 d_M_advance_130 rfl ?_
    refine r_icmp_ne d_M_advance_131 (fun h131 => absurd rfl h131) (fun h131 => ?_)
    refine r_aload_n 0 d_M_advance_134 rfl rfl ?_
    refine r_aload_n 0 d_M_advance_135 rfl rfl ?_
    refine r_getI fl_M_230 (by first | with_reducible assumption | rfl) rfl d_M_advance_136 ?_
    rw [tk_r14]
    refine r_callVi (c_M_byteAt (h.tk _ _ _ _ _) _ hle) lk_M_236 (by first | with_reducible assumption | rfl) d_M_advance_139 rfl rfl (Nat.le_of_ble_eq_true rfl) (by decide) ?_
    refine r_callSi (c_M_isLetter _ _) lk_M_239 d_M_advance_142 rfl rfl (Nat.le_of_ble_eq_true rfl) (by decide) ?_
    refine r_if_eq d_M_advance_145 (fun h145 => ?_) (fun h145 => absurd (bzn hstop) h145)
    exact hk
  | succ r ih =>
    intro k hr
    have hlt : sb u N p + k < wE u N p := by omega
    obtain ⟨q1, q2⟩ := wE_let (u := u) (N := N) (p := p) (j := sb u N p + k) (by omega) hlt
    have ih1 := ih (k + 1) (by omega)
    have hby : byN u N (sb u N p + k) = nI (u (sb u N p + k)) := by_n q1
    by_cases h8 : k < 8
    · have ew : wdK u (sb u N p) k = lN (wdN u (sb u N p) k) := by rw [wdK, if_pos (by omega)]
      have ew2 : wdK u (sb u N p) (k + 1) = lN (27 * wdN u (sb u N p) k + (u (sb u N p + k) - 96)) := by rw [wdK, if_pos (by omega)]; rfl
      rw [ew2] at ih1
      rw [ew]
      refine r_aload_n 0 d_M_advance_126 rfl rfl ?_
      refine r_getI fl_M_245 (by first | with_reducible assumption | rfl) rfl d_M_advance_127 ?_
      rw [tk_r12]
      refine r_iconst 1 d_M_advance_130 rfl ?_
      refine r_icmp_ne d_M_advance_131 (fun h131 => absurd rfl h131) (fun h131 => ?_)
      refine r_aload_n 0 d_M_advance_134 rfl rfl ?_
      refine r_aload_n 0 d_M_advance_135 rfl rfl ?_
      refine r_getI fl_M_230 (by first | with_reducible assumption | rfl) rfl d_M_advance_136 ?_
      rw [tk_r14]
      refine r_callVi (c_M_byteAt (h.tk _ _ _ _ _) _ (by omega)) lk_M_236 (by first | with_reducible assumption | rfl) d_M_advance_139 rfl rfl (Nat.le_of_ble_eq_true rfl) (by decide) ?_
      refine r_callSi (c_M_isLetter _ _) lk_M_239 d_M_advance_142 rfl rfl (Nat.le_of_ble_eq_true rfl) (by decide) ?_
      refine r_if_eq d_M_advance_145 (fun h145 => absurd h145 (bzy ((by_let h.u256).mpr ⟨q1, q2⟩))) (fun h145 => ?_)
      refine r_aload_n 0 d_M_advance_148 rfl rfl ?_
      refine r_aload_n 0 d_M_advance_149 rfl rfl ?_
      refine r_getI fl_M_230 (by first | with_reducible assumption | rfl) rfl d_M_advance_150 ?_
      rw [tk_r14]
      refine r_aload_n 0 d_M_advance_153 rfl rfl ?_
      refine r_getI fl_M_233 (by first | with_reducible assumption | rfl) rfl d_M_advance_154 ?_
      rw [tk_r13]
      refine r_isub d_M_advance_157 ?_
      rw [sub_k]
      refine r_bipush (8) d_M_advance_158 (by decide) ?_
      refine r_icmp_ge d_M_advance_160 (fun h160 => absurd h160 (nI_ge (a := k) (b := 8) h8 (by decide))) (fun h160 => ?_)
      refine r_ldc2 kc_M_255 d_M_advance_163 ?_
      refine r_aload_n 0 d_M_advance_166 rfl rfl ?_
      refine r_getL fl_M_248 (by first | with_reducible assumption | rfl) rfl d_M_advance_167 ?_
      rw [tk_r15]
      refine r_lmul d_M_advance_170 ?_
      refine r_aload_n 0 d_M_advance_171 rfl rfl ?_
      refine r_aload_n 0 d_M_advance_172 rfl rfl ?_
      refine r_getI fl_M_230 (by first | with_reducible assumption | rfl) rfl d_M_advance_173 ?_
      rw [tk_r14]
      refine r_callVi (c_M_byteAt (h.tk _ _ _ _ _) _ (by omega)) lk_M_236 (by first | with_reducible assumption | rfl) d_M_advance_176 rfl rfl (Nat.le_of_ble_eq_true rfl) (by decide) ?_
      rw [hby]
      refine r_i2l d_M_advance_179 ?_
      refine r_ladd d_M_advance_180 ?_
      refine r_ldc2 kc_M_257 d_M_advance_181 ?_
      refine r_lsub d_M_advance_184 ?_
      refine r_goto d_M_advance_185 ?_
      rw [wd_e q2]
      refine r_putL fp_M_248 (by first | with_reducible assumption | rfl) rfl d_M_advance_191 ?_
      refine Wa.eqM tk_15 ?_
      refine r_aload_n 0 d_M_advance_194 rfl rfl ?_
      refine r_dup d_M_advance_195 rfl ?_
      refine r_getI fl_M_230 (by first | with_reducible assumption | rfl) rfl d_M_advance_196 ?_
      rw [tk_r14]
      refine r_iconst 1 d_M_advance_199 rfl ?_
      refine r_iadd d_M_advance_200 ?_
      rw [nI_1]
      refine r_putI fp_M_230 (by first | with_reducible assumption | rfl) rfl d_M_advance_201 ?_
      refine Wa.eqM tk_14 ?_
      refine r_goto d_M_advance_204 ?_
      exact ih1
    · have ew2 : wdK u (sb u N p) (k + 1) = -1 := by rw [wdK, if_neg (by omega)]
      rw [ew2] at ih1
      refine r_aload_n 0 d_M_advance_126 rfl rfl ?_
      refine r_getI fl_M_245 (by first | with_reducible assumption | rfl) rfl d_M_advance_127 ?_
      rw [tk_r12]
      refine r_iconst 1 d_M_advance_130 rfl ?_
      refine r_icmp_ne d_M_advance_131 (fun h131 => absurd rfl h131) (fun h131 => ?_)
      refine r_aload_n 0 d_M_advance_134 rfl rfl ?_
      refine r_aload_n 0 d_M_advance_135 rfl rfl ?_
      refine r_getI fl_M_230 (by first | with_reducible assumption | rfl) rfl d_M_advance_136 ?_
      rw [tk_r14]
      refine r_callVi (c_M_byteAt (h.tk _ _ _ _ _) _ (by omega)) lk_M_236 (by first | with_reducible assumption | rfl) d_M_advance_139 rfl rfl (Nat.le_of_ble_eq_true rfl) (by decide) ?_
      refine r_callSi (c_M_isLetter _ _) lk_M_239 d_M_advance_142 rfl rfl (Nat.le_of_ble_eq_true rfl) (by decide) ?_
      refine r_if_eq d_M_advance_145 (fun h145 => absurd h145 (bzy ((by_let h.u256).mpr ⟨q1, q2⟩))) (fun h145 => ?_)
      refine r_aload_n 0 d_M_advance_148 rfl rfl ?_
      refine r_aload_n 0 d_M_advance_149 rfl rfl ?_
      refine r_getI fl_M_230 (by first | with_reducible assumption | rfl) rfl d_M_advance_150 ?_
      rw [tk_r14]
      refine r_aload_n 0 d_M_advance_153 rfl rfl ?_
      refine r_getI fl_M_233 (by first | with_reducible assumption | rfl) rfl d_M_advance_154 ?_
      rw [tk_r13]
      refine r_isub d_M_advance_157 ?_
      rw [sub_k]
      refine r_bipush (8) d_M_advance_158 (by decide) ?_
      refine r_icmp_ge d_M_advance_160 (fun h160 => ?_) (fun h160 => absurd (nI_le (a := 8) (b := k) (by omega) (by omega)) h160)
      refine r_ldc2 kc_M_104 d_M_advance_188 ?_
      refine r_putL fp_M_248 (by first | with_reducible assumption | rfl) rfl d_M_advance_191 ?_
      refine Wa.eqM tk_15 ?_
      refine r_aload_n 0 d_M_advance_194 rfl rfl ?_
      refine r_dup d_M_advance_195 rfl ?_
      refine r_getI fl_M_230 (by first | with_reducible assumption | rfl) rfl d_M_advance_196 ?_
      rw [tk_r14]
      refine r_iconst 1 d_M_advance_199 rfl ?_
      refine r_iadd d_M_advance_200 ?_
      rw [nI_1]
      refine r_putI fp_M_230 (by first | with_reducible assumption | rfl) rfl d_M_advance_201 ?_
      refine Wa.eqM tk_14 ?_
      refine r_goto d_M_advance_204 ?_
      exact ih1
set_option maxHeartbeats 400000 in
theorem c_adv_d (X : Nat × (Nat → Int32)) {μ : Me} {u : Nat → Nat} {N p : Nat} (h : TmB μ u N) (hp : p ≤ N) (bb : Int32) (w : Int64) : ∀ r k, k + r = nE u N p - sb u N p → Wa X m_M_advance 2 207 [.ref 82, .int bb] [] (tkM μ (nI (sb u N p)) (nI (sb u N p + k)) 2 (vlK u (sb u N p) k) w) (fun r μ' => r = none ∧ μ' = tkM μ (nI (sb u N p)) (nI (nE u N p)) 2 (vlK u (sb u N p) (nE u N p - sb u N p)) w) := by
  have h200 := h.2.1
  have hge := nE_ge (u := u) (N := N) (i := p)
  have hle := nE_le (u := u) hp
  intro r
  induction r with
  | zero =>
    intro k hr
    have e1 : sb u N p + k = nE u N p := by omega
    have hstop : ¬ (48 ≤ byN u N (nE u N p) ∧ byN u N (nE u N p) ≤ 57) := fun z => by
      have z2 := (by_dig h.u256).mp z
      exact sc_end (P := dgP u) (N := N) (i := sb u N p) ⟨z2.1, decide_eq_true z2.2⟩
    obtain rfl : k = nE u N p - sb u N p := by omega
    rw [e1]
    refine r_aload_n 0 d_M_advance_207 rfl rfl ?_
    refine r_getI fl_M_245 (by first | with_reducible assumption | rfl) rfl d_M_advance_208 ?_
    rw [tk_r12]
    refine r_iconst 2 d_M_advance_211 rfl ?_
    refine r_icmp_ne d_M_advance_212 (fun h212 => absurd rfl h212) (fun h212 => ?_)
    refine r_aload_n 0 d_M_advance_215 rfl rfl ?_
    refine r_aload_n 0 d_M_advance_216 rfl rfl ?_
    refine r_getI fl_M_230 (by first | with_reducible assumption | rfl) rfl d_M_advance_217 ?_
    rw [tk_r14]
    refine r_callVi (c_M_byteAt (h.tk _ _ _ _ _) _ hle) lk_M_236 (by first | with_reducible assumption | rfl) d_M_advance_220 rfl rfl (Nat.le_of_ble_eq_true rfl) (by decide) ?_
    refine r_callSi (c_M_isDigit _ _) lk_M_242 d_M_advance_223 rfl rfl (Nat.le_of_ble_eq_true rfl) (by decide) ?_
    refine r_if_eq d_M_advance_226 (fun h226 => ?_) (fun h226 => absurd (bzn hstop) h226)
    refine r_ret d_M_advance_282 rfl ?_
    exact ⟨rfl, rfl⟩
  | succ r ih =>
    intro k hr
    have hlt : sb u N p + k < nE u N p := by omega
    obtain ⟨q1, q2⟩ := nE_dig (u := u) (N := N) (p := p) (j := sb u N p + k) (by omega) hlt
    have ih1 := ih (k + 1) (by omega)
    have hby : byN u N (sb u N p + k) = nI (u (sb u N p + k)) := by_n q1
    by_cases h8 : k < 2
    · have ew : vlK u (sb u N p) k = nI (nvF u (sb u N p) k) := by rw [vlK, if_pos (by omega)]
      have ew2 : vlK u (sb u N p) (k + 1) = nI (nvF u (sb u N p) k * 10 + (u (sb u N p + k) - 48)) := by rw [vlK, if_pos (by omega)]; rfl
      rw [ew2] at ih1
      rw [ew]
      refine r_aload_n 0 d_M_advance_207 rfl rfl ?_
      refine r_getI fl_M_245 (by first | with_reducible assumption | rfl) rfl d_M_advance_208 ?_
      rw [tk_r12]
      refine r_iconst 2 d_M_advance_211 rfl ?_
      refine r_icmp_ne d_M_advance_212 (fun h212 => absurd rfl h212) (fun h212 => ?_)
      refine r_aload_n 0 d_M_advance_215 rfl rfl ?_
      refine r_aload_n 0 d_M_advance_216 rfl rfl ?_
      refine r_getI fl_M_230 (by first | with_reducible assumption | rfl) rfl d_M_advance_217 ?_
      rw [tk_r14]
      refine r_callVi (c_M_byteAt (h.tk _ _ _ _ _) _ (by omega)) lk_M_236 (by first | with_reducible assumption | rfl) d_M_advance_220 rfl rfl (Nat.le_of_ble_eq_true rfl) (by decide) ?_
      refine r_callSi (c_M_isDigit _ _) lk_M_242 d_M_advance_223 rfl rfl (Nat.le_of_ble_eq_true rfl) (by decide) ?_
      refine r_if_eq d_M_advance_226 (fun h226 => absurd h226 (bzy ((by_dig h.u256).mpr ⟨q1, q2⟩))) (fun h226 => ?_)
      refine r_aload_n 0 d_M_advance_229 rfl rfl ?_
      refine r_aload_n 0 d_M_advance_230 rfl rfl ?_
      refine r_getI fl_M_230 (by first | with_reducible assumption | rfl) rfl d_M_advance_231 ?_
      rw [tk_r14]
      refine r_aload_n 0 d_M_advance_234 rfl rfl ?_
      refine r_getI fl_M_233 (by first | with_reducible assumption | rfl) rfl d_M_advance_235 ?_
      rw [tk_r13]
      refine r_isub d_M_advance_238 ?_
      rw [sub_k]
      refine r_iconst 2 d_M_advance_239 rfl ?_
      refine r_icmp_ge d_M_advance_240 (fun h240 => absurd h240 (nI_ge (a := k) (b := 2) h8 (by decide))) (fun h240 => ?_)
      refine r_bipush (10) d_M_advance_243 (by decide) ?_
      refine r_aload_n 0 d_M_advance_245 rfl rfl ?_
      refine r_getI fl_M_252 (by first | with_reducible assumption | rfl) rfl d_M_advance_246 ?_
      rw [tk_r16]
      refine r_imul d_M_advance_249 ?_
      refine r_aload_n 0 d_M_advance_250 rfl rfl ?_
      refine r_aload_n 0 d_M_advance_251 rfl rfl ?_
      refine r_getI fl_M_230 (by first | with_reducible assumption | rfl) rfl d_M_advance_252 ?_
      rw [tk_r14]
      refine r_callVi (c_M_byteAt (h.tk _ _ _ _ _) _ (by omega)) lk_M_236 (by first | with_reducible assumption | rfl) d_M_advance_255 rfl rfl (Nat.le_of_ble_eq_true rfl) (by decide) ?_
      rw [hby]
      refine r_iadd d_M_advance_258 ?_
      refine r_bipush (48) d_M_advance_259 (by decide) ?_
      refine r_isub d_M_advance_261 ?_
      refine r_goto d_M_advance_262 ?_
      rw [dv_e q2]
      refine r_putI fp_M_252 (by first | with_reducible assumption | rfl) rfl d_M_advance_266 ?_
      refine Wa.eqM tk_16 ?_
      refine r_aload_n 0 d_M_advance_269 rfl rfl ?_
      refine r_dup d_M_advance_270 rfl ?_
      refine r_getI fl_M_230 (by first | with_reducible assumption | rfl) rfl d_M_advance_271 ?_
      rw [tk_r14]
      refine r_iconst 1 d_M_advance_274 rfl ?_
      refine r_iadd d_M_advance_275 ?_
      rw [nI_1]
      refine r_putI fp_M_230 (by first | with_reducible assumption | rfl) rfl d_M_advance_276 ?_
      refine Wa.eqM tk_14 ?_
      refine r_goto d_M_advance_279 ?_
      exact ih1
    · have ew2 : vlK u (sb u N p) (k + 1) = -1 := by rw [vlK, if_neg (by omega)]
      rw [ew2] at ih1
      refine r_aload_n 0 d_M_advance_207 rfl rfl ?_
      refine r_getI fl_M_245 (by first | with_reducible assumption | rfl) rfl d_M_advance_208 ?_
      rw [tk_r12]
      refine r_iconst 2 d_M_advance_211 rfl ?_
      refine r_icmp_ne d_M_advance_212 (fun h212 => absurd rfl h212) (fun h212 => ?_)
      refine r_aload_n 0 d_M_advance_215 rfl rfl ?_
      refine r_aload_n 0 d_M_advance_216 rfl rfl ?_
      refine r_getI fl_M_230 (by first | with_reducible assumption | rfl) rfl d_M_advance_217 ?_
      rw [tk_r14]
      refine r_callVi (c_M_byteAt (h.tk _ _ _ _ _) _ (by omega)) lk_M_236 (by first | with_reducible assumption | rfl) d_M_advance_220 rfl rfl (Nat.le_of_ble_eq_true rfl) (by decide) ?_
      refine r_callSi (c_M_isDigit _ _) lk_M_242 d_M_advance_223 rfl rfl (Nat.le_of_ble_eq_true rfl) (by decide) ?_
      refine r_if_eq d_M_advance_226 (fun h226 => absurd h226 (bzy ((by_dig h.u256).mpr ⟨q1, q2⟩))) (fun h226 => ?_)
      refine r_aload_n 0 d_M_advance_229 rfl rfl ?_
      refine r_aload_n 0 d_M_advance_230 rfl rfl ?_
      refine r_getI fl_M_230 (by first | with_reducible assumption | rfl) rfl d_M_advance_231 ?_
      rw [tk_r14]
      refine r_aload_n 0 d_M_advance_234 rfl rfl ?_
      refine r_getI fl_M_233 (by first | with_reducible assumption | rfl) rfl d_M_advance_235 ?_
      rw [tk_r13]
      refine r_isub d_M_advance_238 ?_
      rw [sub_k]
      refine r_iconst 2 d_M_advance_239 rfl ?_
      refine r_icmp_ge d_M_advance_240 (fun h240 => ?_) (fun h240 => absurd (nI_le (a := 2) (b := k) (by omega) (by omega)) h240)
      refine r_iconst (-1) d_M_advance_265 rfl ?_
      refine r_putI fp_M_252 (by first | with_reducible assumption | rfl) rfl d_M_advance_266 ?_
      refine Wa.eqM tk_16 ?_
      refine r_aload_n 0 d_M_advance_269 rfl rfl ?_
      refine r_dup d_M_advance_270 rfl ?_
      refine r_getI fl_M_230 (by first | with_reducible assumption | rfl) rfl d_M_advance_271 ?_
      rw [tk_r14]
      refine r_iconst 1 d_M_advance_274 rfl ?_
      refine r_iadd d_M_advance_275 ?_
      rw [nI_1]
      refine r_putI fp_M_230 (by first | with_reducible assumption | rfl) rfl d_M_advance_276 ?_
      refine Wa.eqM tk_14 ?_
      refine r_goto d_M_advance_279 ?_
      exact ih1
set_option maxHeartbeats 400000 in
theorem c_M_advance {μ : Me} {u : Nat → Nat} {N p : Nat} (h : TmB μ u N) (hp : p ≤ N) (b s v : Int32) (w : Int64) : CtV m_M_advance 2 [.ref 82] (tkM μ b (nI p) s v w) (TK μ u N p) := by
  refine Ct.of (ls := [.ref 82, flr]) rfl (Nat.le_of_ble_eq_true rfl) rfl (fun X => ?_)
  have h200 := h.2.1
  have hB := sb_le (u := u) hp
  have hfin : Wa X m_M_advance 2 34 [.ref 82, flr] [] (tkM μ (nI (sb u N p)) (nI p) s v w) (fun r μ' => r = none ∧ μ' = TK μ u N p) := by
    by_cases hN : sb u N p < N
    · have hb : byN u N (sb u N p) = nI (u (sb u N p)) := by_n hN
      have hu := h.u256 hN
      by_cases hl : isLt u (sb u N p)
      · have eT : TK μ u N p = tkM μ (nI (sb u N p)) (nI (wE u N p)) 1 (byN u N (sb u N p)) (wdK u (sb u N p) (wE u N p - sb u N p)) := by
          rw [TK, tkE, tkS, tkV, tkW, if_pos hN, if_pos hl, if_pos hN, if_pos hl, if_neg (fun z => by have := z.2; omega), if_pos ⟨hN, hl⟩]
        rw [eT]
        have hloop := c_adv_w X h hp (byN u N (sb u N p)) (byN u N (sb u N p)) (fun r μ' => r = none ∧ μ' = tkM μ (nI (sb u N p)) (nI (wE u N p)) 1 (byN u N (sb u N p)) (wdK u (sb u N p) (wE u N p - sb u N p))) (by
          refine r_aload_n 0 d_M_advance_207 rfl rfl ?_
          refine r_getI fl_M_245 (by first | with_reducible assumption | rfl) rfl d_M_advance_208 ?_
          rw [tk_r12]
          refine r_iconst 2 d_M_advance_211 rfl ?_
          refine r_icmp_ne d_M_advance_212 (fun h212 => ?_) (fun h212 => absurd h212 (by decide))
          refine r_ret d_M_advance_282 rfl ?_
          exact ⟨rfl, rfl⟩
          ) (wE u N p - sb u N p) 0 (by omega)
        refine r_aload_n 0 d_M_advance_34 rfl rfl ?_
        refine r_aload_n 0 d_M_advance_35 rfl rfl ?_
        refine r_getI fl_M_233 (by first | with_reducible assumption | rfl) rfl d_M_advance_36 ?_
        rw [tk_r13]
        refine r_putI fp_M_230 (by first | with_reducible assumption | rfl) rfl d_M_advance_39 ?_
        refine Wa.eqM tk_14 ?_
        refine r_aload_n 0 d_M_advance_42 rfl rfl ?_
        refine r_aload_n 0 d_M_advance_43 rfl rfl ?_
        refine r_getI fl_M_233 (by first | with_reducible assumption | rfl) rfl d_M_advance_44 ?_
        rw [tk_r13]
        refine r_callVi (c_M_byteAt (h.tk _ _ _ _ _) _ hB) lk_M_236 (by first | with_reducible assumption | rfl) d_M_advance_47 rfl rfl (Nat.le_of_ble_eq_true rfl) (by decide) ?_
        refine r_istore_n 1 [_, _] d_M_advance_50 rfl (by decide) rfl ?_
        refine r_aload_n 0 d_M_advance_51 rfl rfl ?_
        refine r_iload_n 1 d_M_advance_52 rfl rfl ?_
        refine r_if_ge d_M_advance_53 (fun h53 => ?_) (fun h53 => absurd (by rw [hb]; exact nI_pos' (by omega)) h53)
        refine r_iload_n 1 d_M_advance_60 rfl rfl ?_
        refine r_callSi (c_M_isLetter _ _) lk_M_239 d_M_advance_61 rfl rfl (Nat.le_of_ble_eq_true rfl) (by decide) ?_
        refine r_if_eq d_M_advance_64 (fun h64 => absurd h64 (bzy ((by_let h.u256).mpr ⟨hN, hl⟩))) (fun h64 => ?_)
        refine r_iconst 1 d_M_advance_67 rfl ?_
        refine r_goto d_M_advance_68 ?_
        refine r_putI fp_M_245 (by first | with_reducible assumption | rfl) rfl d_M_advance_83 ?_
        refine Wa.eqM tk_12 ?_
        refine r_aload_n 0 d_M_advance_86 rfl rfl ?_
        refine r_lconst 0 d_M_advance_87 rfl ?_
        refine r_putL fp_M_248 (by first | with_reducible assumption | rfl) rfl d_M_advance_88 ?_
        refine Wa.eqM tk_15 ?_
        refine r_aload_n 0 d_M_advance_91 rfl rfl ?_
        refine r_aload_n 0 d_M_advance_92 rfl rfl ?_
        refine r_getI fl_M_245 (by first | with_reducible assumption | rfl) rfl d_M_advance_93 ?_
        rw [tk_r12]
        refine r_iconst 2 d_M_advance_96 rfl ?_
        refine r_icmp_ne d_M_advance_97 (fun h97 => ?_) (fun h97 => absurd h97 (by decide))
        refine r_iload_n 1 d_M_advance_104 rfl rfl ?_
        refine r_putI fp_M_252 (by first | with_reducible assumption | rfl) rfl d_M_advance_105 ?_
        refine Wa.eqM tk_16 ?_
        refine r_aload_n 0 d_M_advance_108 rfl rfl ?_
        refine r_getI fl_M_245 (by first | with_reducible assumption | rfl) rfl d_M_advance_109 ?_
        rw [tk_r12]
        refine r_iconst 3 d_M_advance_112 rfl ?_
        refine r_icmp_ne d_M_advance_113 (fun h113 => ?_) (fun h113 => absurd h113 (by decide))
        exact hloop
      · by_cases hd : isDg u (sb u N p)
        · have eT : TK μ u N p = tkM μ (nI (sb u N p)) (nI (nE u N p)) 2 (vlK u (sb u N p) (nE u N p - sb u N p)) 0 := by
            rw [TK, tkE, tkS, tkV, tkW, if_pos hN, if_neg hl, if_pos hd, if_pos hN, if_neg hl, if_pos hd, if_pos ⟨hN, hd⟩, if_neg (fun z => hl z.2)]
          rw [eT]
          have hloop := c_adv_d X h hp (byN u N (sb u N p)) 0 (nE u N p - sb u N p) 0 (by omega)
          refine r_aload_n 0 d_M_advance_34 rfl rfl ?_
          refine r_aload_n 0 d_M_advance_35 rfl rfl ?_
          refine r_getI fl_M_233 (by first | with_reducible assumption | rfl) rfl d_M_advance_36 ?_
          rw [tk_r13]
          refine r_putI fp_M_230 (by first | with_reducible assumption | rfl) rfl d_M_advance_39 ?_
          refine Wa.eqM tk_14 ?_
          refine r_aload_n 0 d_M_advance_42 rfl rfl ?_
          refine r_aload_n 0 d_M_advance_43 rfl rfl ?_
          refine r_getI fl_M_233 (by first | with_reducible assumption | rfl) rfl d_M_advance_44 ?_
          rw [tk_r13]
          refine r_callVi (c_M_byteAt (h.tk _ _ _ _ _) _ hB) lk_M_236 (by first | with_reducible assumption | rfl) d_M_advance_47 rfl rfl (Nat.le_of_ble_eq_true rfl) (by decide) ?_
          refine r_istore_n 1 [_, _] d_M_advance_50 rfl (by decide) rfl ?_
          refine r_aload_n 0 d_M_advance_51 rfl rfl ?_
          refine r_iload_n 1 d_M_advance_52 rfl rfl ?_
          refine r_if_ge d_M_advance_53 (fun h53 => ?_) (fun h53 => absurd (by rw [hb]; exact nI_pos' (by omega)) h53)
          refine r_iload_n 1 d_M_advance_60 rfl rfl ?_
          refine r_callSi (c_M_isLetter _ _) lk_M_239 d_M_advance_61 rfl rfl (Nat.le_of_ble_eq_true rfl) (by decide) ?_
          refine r_if_eq d_M_advance_64 (fun h64 => ?_) (fun h64 => absurd (bzn (fun z => hl ((by_let h.u256).mp z).2)) h64)
          refine r_iload_n 1 d_M_advance_71 rfl rfl ?_
          refine r_callSi (c_M_isDigit _ _) lk_M_242 d_M_advance_72 rfl rfl (Nat.le_of_ble_eq_true rfl) (by decide) ?_
          refine r_if_eq d_M_advance_75 (fun h75 => absurd h75 (bzy ((by_dig h.u256).mpr ⟨hN, hd⟩))) (fun h75 => ?_)
          refine r_iconst 2 d_M_advance_78 rfl ?_
          refine r_goto d_M_advance_79 ?_
          refine r_putI fp_M_245 (by first | with_reducible assumption | rfl) rfl d_M_advance_83 ?_
          refine Wa.eqM tk_12 ?_
          refine r_aload_n 0 d_M_advance_86 rfl rfl ?_
          refine r_lconst 0 d_M_advance_87 rfl ?_
          refine r_putL fp_M_248 (by first | with_reducible assumption | rfl) rfl d_M_advance_88 ?_
          refine Wa.eqM tk_15 ?_
          refine r_aload_n 0 d_M_advance_91 rfl rfl ?_
          refine r_aload_n 0 d_M_advance_92 rfl rfl ?_
          refine r_getI fl_M_245 (by first | with_reducible assumption | rfl) rfl d_M_advance_93 ?_
          rw [tk_r12]
          refine r_iconst 2 d_M_advance_96 rfl ?_
          refine r_icmp_ne d_M_advance_97 (fun h97 => absurd rfl h97) (fun h97 => ?_)
          refine r_iconst 0 d_M_advance_100 rfl ?_
          refine r_goto d_M_advance_101 ?_
          refine r_putI fp_M_252 (by first | with_reducible assumption | rfl) rfl d_M_advance_105 ?_
          refine Wa.eqM tk_16 ?_
          refine r_aload_n 0 d_M_advance_108 rfl rfl ?_
          refine r_getI fl_M_245 (by first | with_reducible assumption | rfl) rfl d_M_advance_109 ?_
          rw [tk_r12]
          refine r_iconst 3 d_M_advance_112 rfl ?_
          refine r_icmp_ne d_M_advance_113 (fun h113 => ?_) (fun h113 => absurd h113 (by decide))
          refine r_aload_n 0 d_M_advance_126 rfl rfl ?_
          refine r_getI fl_M_245 (by first | with_reducible assumption | rfl) rfl d_M_advance_127 ?_
          rw [tk_r12]
          refine r_iconst 1 d_M_advance_130 rfl ?_
          refine r_icmp_ne d_M_advance_131 (fun h131 => ?_) (fun h131 => absurd h131 (by decide))
          exact hloop
        · have eT : TK μ u N p = tkM μ (nI (sb u N p)) (nI (sb u N p + 1)) 3 (byN u N (sb u N p)) 0 := by
            rw [TK, tkE, tkS, tkV, tkW, if_pos hN, if_neg hl, if_neg hd, if_pos hN, if_neg hl, if_neg hd, if_neg (fun z => hd z.2), if_neg (fun z => hl z.2)]
          rw [eT]
          refine r_aload_n 0 d_M_advance_34 rfl rfl ?_
          refine r_aload_n 0 d_M_advance_35 rfl rfl ?_
          refine r_getI fl_M_233 (by first | with_reducible assumption | rfl) rfl d_M_advance_36 ?_
          rw [tk_r13]
          refine r_putI fp_M_230 (by first | with_reducible assumption | rfl) rfl d_M_advance_39 ?_
          refine Wa.eqM tk_14 ?_
          refine r_aload_n 0 d_M_advance_42 rfl rfl ?_
          refine r_aload_n 0 d_M_advance_43 rfl rfl ?_
          refine r_getI fl_M_233 (by first | with_reducible assumption | rfl) rfl d_M_advance_44 ?_
          rw [tk_r13]
          refine r_callVi (c_M_byteAt (h.tk _ _ _ _ _) _ hB) lk_M_236 (by first | with_reducible assumption | rfl) d_M_advance_47 rfl rfl (Nat.le_of_ble_eq_true rfl) (by decide) ?_
          refine r_istore_n 1 [_, _] d_M_advance_50 rfl (by decide) rfl ?_
          refine r_aload_n 0 d_M_advance_51 rfl rfl ?_
          refine r_iload_n 1 d_M_advance_52 rfl rfl ?_
          refine r_if_ge d_M_advance_53 (fun h53 => ?_) (fun h53 => absurd (by rw [hb]; exact nI_pos' (by omega)) h53)
          refine r_iload_n 1 d_M_advance_60 rfl rfl ?_
          refine r_callSi (c_M_isLetter _ _) lk_M_239 d_M_advance_61 rfl rfl (Nat.le_of_ble_eq_true rfl) (by decide) ?_
          refine r_if_eq d_M_advance_64 (fun h64 => ?_) (fun h64 => absurd (bzn (fun z => hl ((by_let h.u256).mp z).2)) h64)
          refine r_iload_n 1 d_M_advance_71 rfl rfl ?_
          refine r_callSi (c_M_isDigit _ _) lk_M_242 d_M_advance_72 rfl rfl (Nat.le_of_ble_eq_true rfl) (by decide) ?_
          refine r_if_eq d_M_advance_75 (fun h75 => ?_) (fun h75 => absurd (bzn (fun z => hd ((by_dig h.u256).mp z).2)) h75)
          refine r_iconst 3 d_M_advance_82 rfl ?_
          refine r_putI fp_M_245 (by first | with_reducible assumption | rfl) rfl d_M_advance_83 ?_
          refine Wa.eqM tk_12 ?_
          refine r_aload_n 0 d_M_advance_86 rfl rfl ?_
          refine r_lconst 0 d_M_advance_87 rfl ?_
          refine r_putL fp_M_248 (by first | with_reducible assumption | rfl) rfl d_M_advance_88 ?_
          refine Wa.eqM tk_15 ?_
          refine r_aload_n 0 d_M_advance_91 rfl rfl ?_
          refine r_aload_n 0 d_M_advance_92 rfl rfl ?_
          refine r_getI fl_M_245 (by first | with_reducible assumption | rfl) rfl d_M_advance_93 ?_
          rw [tk_r12]
          refine r_iconst 2 d_M_advance_96 rfl ?_
          refine r_icmp_ne d_M_advance_97 (fun h97 => ?_) (fun h97 => absurd h97 (by decide))
          refine r_iload_n 1 d_M_advance_104 rfl rfl ?_
          refine r_putI fp_M_252 (by first | with_reducible assumption | rfl) rfl d_M_advance_105 ?_
          refine Wa.eqM tk_16 ?_
          refine r_aload_n 0 d_M_advance_108 rfl rfl ?_
          refine r_getI fl_M_245 (by first | with_reducible assumption | rfl) rfl d_M_advance_109 ?_
          rw [tk_r12]
          refine r_iconst 3 d_M_advance_112 rfl ?_
          refine r_icmp_ne d_M_advance_113 (fun h113 => absurd rfl h113) (fun h113 => ?_)
          refine r_aload_n 0 d_M_advance_116 rfl rfl ?_
          refine r_dup d_M_advance_117 rfl ?_
          refine r_getI fl_M_230 (by first | with_reducible assumption | rfl) rfl d_M_advance_118 ?_
          rw [tk_r14]
          refine r_iconst 1 d_M_advance_121 rfl ?_
          refine r_iadd d_M_advance_122 ?_
          rw [nI_1]
          refine r_putI fp_M_230 (by first | with_reducible assumption | rfl) rfl d_M_advance_123 ?_
          refine Wa.eqM tk_14 ?_
          refine r_aload_n 0 d_M_advance_126 rfl rfl ?_
          refine r_getI fl_M_245 (by first | with_reducible assumption | rfl) rfl d_M_advance_127 ?_
          rw [tk_r12]
          refine r_iconst 1 d_M_advance_130 rfl ?_
          refine r_icmp_ne d_M_advance_131 (fun h131 => ?_) (fun h131 => absurd h131 (by decide))
          refine r_aload_n 0 d_M_advance_207 rfl rfl ?_
          refine r_getI fl_M_245 (by first | with_reducible assumption | rfl) rfl d_M_advance_208 ?_
          rw [tk_r12]
          refine r_iconst 2 d_M_advance_211 rfl ?_
          refine r_icmp_ne d_M_advance_212 (fun h212 => ?_) (fun h212 => absurd h212 (by decide))
          refine r_ret d_M_advance_282 rfl ?_
          exact ⟨rfl, rfl⟩
    · have hb : byN u N (sb u N p) = -1 := by rw [byN, if_neg hN]
      have eT : TK μ u N p = tkM μ (nI (sb u N p)) (nI (sb u N p)) 0 (byN u N (sb u N p)) 0 := by
        rw [TK, tkE, tkS, tkV, tkW, if_neg hN, if_neg hN, if_neg (fun z => hN z.1), if_neg (fun z => hN z.1)]
      rw [eT]
      refine r_aload_n 0 d_M_advance_34 rfl rfl ?_
      refine r_aload_n 0 d_M_advance_35 rfl rfl ?_
      refine r_getI fl_M_233 (by first | with_reducible assumption | rfl) rfl d_M_advance_36 ?_
      rw [tk_r13]
      refine r_putI fp_M_230 (by first | with_reducible assumption | rfl) rfl d_M_advance_39 ?_
      refine Wa.eqM tk_14 ?_
      refine r_aload_n 0 d_M_advance_42 rfl rfl ?_
      refine r_aload_n 0 d_M_advance_43 rfl rfl ?_
      refine r_getI fl_M_233 (by first | with_reducible assumption | rfl) rfl d_M_advance_44 ?_
      rw [tk_r13]
      refine r_callVi (c_M_byteAt (h.tk _ _ _ _ _) _ hB) lk_M_236 (by first | with_reducible assumption | rfl) d_M_advance_47 rfl rfl (Nat.le_of_ble_eq_true rfl) (by decide) ?_
      refine r_istore_n 1 [_, _] d_M_advance_50 rfl (by decide) rfl ?_
      refine r_aload_n 0 d_M_advance_51 rfl rfl ?_
      refine r_iload_n 1 d_M_advance_52 rfl rfl ?_
      refine r_if_ge d_M_advance_53 (fun h53 => absurd h53 (by rw [hb]; decide)) (fun h53 => ?_)
      refine r_iconst 0 d_M_advance_56 rfl ?_
      refine r_goto d_M_advance_57 ?_
      refine r_putI fp_M_245 (by first | with_reducible assumption | rfl) rfl d_M_advance_83 ?_
      refine Wa.eqM tk_12 ?_
      refine r_aload_n 0 d_M_advance_86 rfl rfl ?_
      refine r_lconst 0 d_M_advance_87 rfl ?_
      refine r_putL fp_M_248 (by first | with_reducible assumption | rfl) rfl d_M_advance_88 ?_
      refine Wa.eqM tk_15 ?_
      refine r_aload_n 0 d_M_advance_91 rfl rfl ?_
      refine r_aload_n 0 d_M_advance_92 rfl rfl ?_
      refine r_getI fl_M_245 (by first | with_reducible assumption | rfl) rfl d_M_advance_93 ?_
      rw [tk_r12]
      refine r_iconst 2 d_M_advance_96 rfl ?_
      refine r_icmp_ne d_M_advance_97 (fun h97 => ?_) (fun h97 => absurd h97 (by decide))
      refine r_iload_n 1 d_M_advance_104 rfl rfl ?_
      refine r_putI fp_M_252 (by first | with_reducible assumption | rfl) rfl d_M_advance_105 ?_
      refine Wa.eqM tk_16 ?_
      refine r_aload_n 0 d_M_advance_108 rfl rfl ?_
      refine r_getI fl_M_245 (by first | with_reducible assumption | rfl) rfl d_M_advance_109 ?_
      rw [tk_r12]
      refine r_iconst 3 d_M_advance_112 rfl ?_
      refine r_icmp_ne d_M_advance_113 (fun h113 => ?_) (fun h113 => absurd h113 (by decide))
      refine r_aload_n 0 d_M_advance_126 rfl rfl ?_
      refine r_getI fl_M_245 (by first | with_reducible assumption | rfl) rfl d_M_advance_127 ?_
      rw [tk_r12]
      refine r_iconst 1 d_M_advance_130 rfl ?_
      refine r_icmp_ne d_M_advance_131 (fun h131 => ?_) (fun h131 => absurd h131 (by decide))
      refine r_aload_n 0 d_M_advance_207 rfl rfl ?_
      refine r_getI fl_M_245 (by first | with_reducible assumption | rfl) rfl d_M_advance_208 ?_
      rw [tk_r12]
      refine r_iconst 2 d_M_advance_211 rfl ?_
      refine r_icmp_ne d_M_advance_212 (fun h212 => ?_) (fun h212 => absurd h212 (by decide))
      refine r_ret d_M_advance_282 rfl ?_
      exact ⟨rfl, rfl⟩
  refine r_aload_n 0 d_M_advance_0 rfl rfl ?_
  refine r_aload_n 0 d_M_advance_1 rfl rfl ?_
  refine r_getI fl_M_230 (by first | with_reducible assumption | rfl) rfl d_M_advance_2 ?_
  rw [tk_r14]
  refine r_putI fp_M_233 (by first | with_reducible assumption | rfl) rfl d_M_advance_5 ?_
  refine Wa.eqM tk_13 ?_
  exact c_adv_sk X h _ _ _ _ _ hfin (N - p) p rfl hp rfl
