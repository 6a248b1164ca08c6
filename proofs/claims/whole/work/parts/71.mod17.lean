/-! reading a TEXT, by the reference: tokens -/
def TmB (μ : Me) (u : Nat → Nat) (N : Nat) : Prop := μ.1 82 11 = nI N ∧ N ≤ 200 ∧ ∀ i, i < N → u i < 256 ∧ μ.1 88 i = nI (u i)
def byN (u : Nat → Nat) (N k : Nat) : Int32 := if k < N then nI (u k) else -1
set_option maxHeartbeats 400000 in
theorem c_M_byteAt {μ : Me} {u : Nat → Nat} {N : Nat} (h : TmB μ u N) (k : Nat) (hk : k ≤ N) : CtI m_M_byteAt 0 [.ref 82, .int (nI k)] μ (byN u N k) μ := by
  refine Ct.of (ls := [.ref 82, .int (nI k)]) rfl (Nat.le_of_ble_eq_true rfl) rfl (fun X => ?_)
  have h200 := h.2.1
  by_cases hN : k < N
  · rw [byN, if_pos hN]
    refine r_iload_n 1 d_M_byteAt_0 rfl rfl ?_
    refine r_aload_n 0 d_M_byteAt_1 rfl rfl ?_
    refine r_getI fl_M_225 (by first | with_reducible assumption | rfl) rfl d_M_byteAt_2 ?_
    rw [h.1]
    refine r_icmp_ge d_M_byteAt_5 (fun h5 => absurd h5 (nI_ge hN (by omega))) (fun h5 => ?_)
    refine r_aload_n 0 d_M_byteAt_8 rfl rfl ?_
    refine r_getR fl_M_29 (by first | with_reducible assumption | rfl) rfl d_M_byteAt_9 ?_
    refine r_iload_n 1 d_M_byteAt_12 rfl rfl ?_
    refine r_ialdN (by first | with_reducible assumption | rfl) (show k < 200 by omega) d_M_byteAt_13 ?_
    refine r_goto d_M_byteAt_14 ?_
    refine r_iret .int d_M_byteAt_18 rfl rfl ?_
    exact ⟨by rw [(h.2.2 k hN).2], rfl⟩
  · rw [byN, if_neg hN]
    refine r_iload_n 1 d_M_byteAt_0 rfl rfl ?_
    refine r_aload_n 0 d_M_byteAt_1 rfl rfl ?_
    refine r_getI fl_M_225 (by first | with_reducible assumption | rfl) rfl d_M_byteAt_2 ?_
    rw [h.1]
    refine r_icmp_ge d_M_byteAt_5 (fun h5 => ?_) (fun h5 => absurd (nI_le (by omega) (by omega)) h5)
    refine r_iconst (-1) d_M_byteAt_17 rfl ?_
    refine r_iret .int d_M_byteAt_18 rfl rfl ?_
    exact ⟨rfl, rfl⟩
set_option maxHeartbeats 400000 in
theorem c_M_isLetter (x : Int32) (μ : Me) : CtI m_M_isLetter 1 [.int x] μ (bz (97 ≤ x ∧ x ≤ 122)) μ := by
  refine Ct.of (ls := [.int x]) rfl (Nat.le_of_ble_eq_true rfl) rfl (fun X => ?_)
  refine r_iload_n 0 d_M_isLetter_0 rfl rfl ?_
  refine r_bipush (97) d_M_isLetter_1 (by decide) ?_
  refine r_bipush (122) d_M_isLetter_3 (by decide) ?_
  refine r_callSi (c_M_in _ _ _ _) lk_M_72 d_M_isLetter_5 rfl rfl (Nat.le_of_ble_eq_true rfl) (by decide) ?_
  refine r_iret .boolean d_M_isLetter_8 rfl bz_n ?_
  exact ⟨rfl, rfl⟩
set_option maxHeartbeats 400000 in
theorem c_M_isDigit (x : Int32) (μ : Me) : CtI m_M_isDigit 1 [.int x] μ (bz (48 ≤ x ∧ x ≤ 57)) μ := by
  refine Ct.of (ls := [.int x]) rfl (Nat.le_of_ble_eq_true rfl) rfl (fun X => ?_)
  refine r_iload_n 0 d_M_isDigit_0 rfl rfl ?_
  refine r_bipush (48) d_M_isDigit_1 (by decide) ?_
  refine r_bipush (57) d_M_isDigit_3 (by decide) ?_
  refine r_callSi (c_M_in _ _ _ _) lk_M_72 d_M_isDigit_5 rfl rfl (Nat.le_of_ble_eq_true rfl) (by decide) ?_
  refine r_iret .boolean d_M_isDigit_8 rfl bz_n ?_
  exact ⟨rfl, rfl⟩
set_option maxHeartbeats 400000 in
theorem c_M_isWord (w : Int64) (μ : Me) : CtI m_M_isWord 0 [.ref 82, .long w] μ (bz (μ.1 82 12 = 1 ∧ μ.2 82 15 = w)) μ := by
  refine Ct.of (ls := [.ref 82, .long w, flr]) rfl (Nat.le_of_ble_eq_true rfl) rfl (fun X => ?_)
  by_cases h1 : μ.1 82 12 = 1
  · by_cases h2 : μ.2 82 15 = w
    · rw [← bz_t ⟨h1, h2⟩]
      refine r_aload_n 0 d_M_isWord_0 rfl rfl ?_
      refine r_getI fl_M_245 (by first | with_reducible assumption | rfl) rfl d_M_isWord_1 ?_
      refine r_iconst 1 d_M_isWord_4 rfl ?_
      refine r_icmp_ne d_M_isWord_5 (fun h5 => absurd h1 h5) (fun h5 => ?_)
      refine r_aload_n 0 d_M_isWord_8 rfl rfl ?_
      refine r_getL fl_M_248 (by first | with_reducible assumption | rfl) rfl d_M_isWord_9 ?_
      refine r_lload_n 1 d_M_isWord_12 rfl rfl ?_
      refine r_lcmp d_M_isWord_13 ?_
      refine r_if_ne d_M_isWord_14 (fun h14 => absurd (lc0.mpr h2) h14) (fun h14 => ?_)
      refine r_iconst 1 d_M_isWord_17 rfl ?_
      refine r_goto d_M_isWord_18 ?_
      refine r_iret .boolean d_M_isWord_22 rfl (by first | decide | assumption) ?_
      exact ⟨rfl, rfl⟩
    · rw [← bz_f (fun z => h2 z.2)]
      refine r_aload_n 0 d_M_isWord_0 rfl rfl ?_
      refine r_getI fl_M_245 (by first | with_reducible assumption | rfl) rfl d_M_isWord_1 ?_
      refine r_iconst 1 d_M_isWord_4 rfl ?_
      refine r_icmp_ne d_M_isWord_5 (fun h5 => absurd h1 h5) (fun h5 => ?_)
      refine r_aload_n 0 d_M_isWord_8 rfl rfl ?_
      refine r_getL fl_M_248 (by first | with_reducible assumption | rfl) rfl d_M_isWord_9 ?_
      refine r_lload_n 1 d_M_isWord_12 rfl rfl ?_
      refine r_lcmp d_M_isWord_13 ?_
      refine r_if_ne d_M_isWord_14 (fun h14 => ?_) (fun h14 => absurd h14 (fun z => h2 (lc0.mp z)))
      refine r_iconst 0 d_M_isWord_21 rfl ?_
      refine r_iret .boolean d_M_isWord_22 rfl (by first | decide | assumption) ?_
      exact ⟨rfl, rfl⟩
  · rw [← bz_f (fun z => h1 z.1)]
    refine r_aload_n 0 d_M_isWord_0 rfl rfl ?_
    refine r_getI fl_M_245 (by first | with_reducible assumption | rfl) rfl d_M_isWord_1 ?_
    refine r_iconst 1 d_M_isWord_4 rfl ?_
    refine r_icmp_ne d_M_isWord_5 (fun h5 => ?_) (fun h5 => absurd h5 h1)
    refine r_iconst 0 d_M_isWord_21 rfl ?_
    refine r_iret .boolean d_M_isWord_22 rfl (by first | decide | assumption) ?_
    exact ⟨rfl, rfl⟩
set_option maxHeartbeats 400000 in
theorem c_M_isMark (w : Int32) (μ : Me) : CtI m_M_isMark 0 [.ref 82, .int w] μ (bz (μ.1 82 12 = 3 ∧ μ.1 82 16 = w)) μ := by
  refine Ct.of (ls := [.ref 82, .int w]) rfl (Nat.le_of_ble_eq_true rfl) rfl (fun X => ?_)
  by_cases h1 : μ.1 82 12 = 3
  · by_cases h2 : μ.1 82 16 = w
    · rw [← bz_t ⟨h1, h2⟩]
      refine r_aload_n 0 d_M_isMark_0 rfl rfl ?_
      refine r_getI fl_M_245 (by first | with_reducible assumption | rfl) rfl d_M_isMark_1 ?_
      refine r_iconst 3 d_M_isMark_4 rfl ?_
      refine r_icmp_ne d_M_isMark_5 (fun h5 => absurd h1 h5) (fun h5 => ?_)
      refine r_aload_n 0 d_M_isMark_8 rfl rfl ?_
      refine r_getI fl_M_252 (by first | with_reducible assumption | rfl) rfl d_M_isMark_9 ?_
      refine r_iload_n 1 d_M_isMark_12 rfl rfl ?_
      refine r_icmp_ne d_M_isMark_13 (fun h13 => absurd h2 h13) (fun h13 => ?_)
      refine r_iconst 1 d_M_isMark_16 rfl ?_
      refine r_goto d_M_isMark_17 ?_
      refine r_iret .boolean d_M_isMark_21 rfl (by first | decide | assumption) ?_
      exact ⟨rfl, rfl⟩
    · rw [← bz_f (fun z => h2 z.2)]
      refine r_aload_n 0 d_M_isMark_0 rfl rfl ?_
      refine r_getI fl_M_245 (by first | with_reducible assumption | rfl) rfl d_M_isMark_1 ?_
      refine r_iconst 3 d_M_isMark_4 rfl ?_
      refine r_icmp_ne d_M_isMark_5 (fun h5 => absurd h1 h5) (fun h5 => ?_)
      refine r_aload_n 0 d_M_isMark_8 rfl rfl ?_
      refine r_getI fl_M_252 (by first | with_reducible assumption | rfl) rfl d_M_isMark_9 ?_
      refine r_iload_n 1 d_M_isMark_12 rfl rfl ?_
      refine r_icmp_ne d_M_isMark_13 (fun h13 => ?_) (fun h13 => absurd h13 h2)
      refine r_iconst 0 d_M_isMark_20 rfl ?_
      refine r_iret .boolean d_M_isMark_21 rfl (by first | decide | assumption) ?_
      exact ⟨rfl, rfl⟩
  · rw [← bz_f (fun z => h1 z.1)]
    refine r_aload_n 0 d_M_isMark_0 rfl rfl ?_
    refine r_getI fl_M_245 (by first | with_reducible assumption | rfl) rfl d_M_isMark_1 ?_
    refine r_iconst 3 d_M_isMark_4 rfl ?_
    refine r_icmp_ne d_M_isMark_5 (fun h5 => ?_) (fun h5 => absurd h5 h1)
    refine r_iconst 0 d_M_isMark_20 rfl ?_
    refine r_iret .boolean d_M_isMark_21 rfl (by first | decide | assumption) ?_
    exact ⟨rfl, rfl⟩
/-- the memory with the token's fields set -/
def tkM (μ : Me) (b e s v : Int32) (w : Int64) : Me := (fun c => if c = 82 then (fun j => if j = 13 then b else if j = 14 then e else if j = 12 then s else if j = 16 then v else μ.1 82 j) else μ.1 c, fun c => if c = 82 then (fun j => if j = 15 then w else μ.2 82 j) else μ.2 c)
theorem tk_13 {μ : Me} {b e s v x : Int32} {w : Int64} : uI (tkM μ b e s v w) 82 13 x = tkM μ x e s v w := Me_ext (fun c j => by
  simp only [uI, rI, tkM, upd]
  by_cases hc : c = 82
  · by_cases hj : j = 13 <;> simp [hc, hj, upd, vp_updL]
  · simp [hc]) (fun _ _ => rfl)
theorem tk_14 {μ : Me} {b e s v x : Int32} {w : Int64} : uI (tkM μ b e s v w) 82 14 x = tkM μ b x s v w := Me_ext (fun c j => by
  simp only [uI, rI, tkM, upd]
  by_cases hc : c = 82
  · by_cases hj : j = 14 <;> simp [hc, hj, upd, vp_updL]
  · simp [hc]) (fun _ _ => rfl)
theorem tk_12 {μ : Me} {b e s v x : Int32} {w : Int64} : uI (tkM μ b e s v w) 82 12 x = tkM μ b e x v w := Me_ext (fun c j => by
  simp only [uI, rI, tkM, upd]
  by_cases hc : c = 82
  · by_cases hj : j = 12 <;> simp [hc, hj, upd, vp_updL]
  · simp [hc]) (fun _ _ => rfl)
theorem tk_16 {μ : Me} {b e s v x : Int32} {w : Int64} : uI (tkM μ b e s v w) 82 16 x = tkM μ b e s x w := Me_ext (fun c j => by
  simp only [uI, rI, tkM, upd]
  by_cases hc : c = 82
  · by_cases hj : j = 16 <;> simp [hc, hj, upd, vp_updL]
  · simp [hc]) (fun _ _ => rfl)
theorem tk_15 {μ : Me} {b e s v : Int32} {w x : Int64} : uL (tkM μ b e s v w) 82 15 x = tkM μ b e s v x := Me_ext (fun _ _ => rfl) (fun c j => by
  simp only [uL, rL, tkM, vp_updL]
  by_cases hc : c = 82
  · by_cases hj : j = 15 <;> simp [hc, hj, upd, vp_updL]
  · simp [hc])
theorem tk_17 {μ : Me} {g b e s v x : Int32} {w : Int64} : uI (tkM (uI μ 82 17 g) b e s v w) 82 17 x = tkM (uI μ 82 17 x) b e s v w := Me_ext (fun c j => by
  simp only [uI, rI, tkM, upd]
  by_cases hc : c = 82
  · by_cases hj : j = 17 <;> simp [hc, hj, upd, vp_updL]
  · simp [hc]) (fun _ _ => rfl)
theorem tk_90 {μ : Me} {g b e s v x : Int32} {w : Int64} {k : Nat} : uI (tkM (uI μ 82 17 g) b e s v w) 90 k x = tkM (uI (uI μ 90 k x) 82 17 g) b e s v w := Me_ext (fun c j => by
  simp only [uI, rI, tkM, upd]
  by_cases hc : c = 82
  · by_cases hj : j = 17 <;> simp [hc, hj, upd, vp_updL]
  · by_cases h90 : c = 90 <;> simp [hc, h90, upd]) (fun _ _ => rfl)
theorem tk_r13 {μ : Me} {b e s v : Int32} {w : Int64} : (tkM μ b e s v w).1 82 13 = b := by simp [tkM]
theorem tk_r14 {μ : Me} {b e s v : Int32} {w : Int64} : (tkM μ b e s v w).1 82 14 = e := by simp [tkM]
theorem tk_r12 {μ : Me} {b e s v : Int32} {w : Int64} : (tkM μ b e s v w).1 82 12 = s := by simp [tkM]
theorem tk_r16 {μ : Me} {b e s v : Int32} {w : Int64} : (tkM μ b e s v w).1 82 16 = v := by simp [tkM]
theorem tk_r15 {μ : Me} {b e s v : Int32} {w : Int64} : (tkM μ b e s v w).2 82 15 = w := by simp [tkM]
theorem tk_r17 {μ : Me} {g b e s v : Int32} {w : Int64} : (tkM (uI μ 82 17 g) b e s v w).1 82 17 = g := by simp [tkM, uI, rI, upd]
theorem tk_ne {μ : Me} {b e s v : Int32} {w : Int64} {c : Nat} (h : c ≠ 82) : (tkM μ b e s v w).1 c = μ.1 c := by simp [tkM, h]
theorem tk_o {μ : Me} {b e s v : Int32} {w : Int64} {j : Nat} (h1 : j ≠ 12) (h2 : j ≠ 13) (h3 : j ≠ 14) (h4 : j ≠ 16) : (tkM μ b e s v w).1 82 j = μ.1 82 j := by simp [tkM, h1, h2, h3, h4]
theorem tk_self {μ : Me} : tkM μ (μ.1 82 13) (μ.1 82 14) (μ.1 82 12) (μ.1 82 16) (μ.2 82 15) = μ := Me_ext (fun c j => by
  simp only [tkM]
  by_cases hc : c = 82
  · subst hc
    simp only [if_true]
    by_cases h1 : j = 13
    · simp [h1]
    · by_cases h2 : j = 14
      · simp [h2]
      · by_cases h3 : j = 12
        · simp [h3]
        · by_cases h4 : j = 16
          · simp [h4]
          · simp [h1, h2, h3, h4]
  · simp [hc]) (fun c j => by
  simp only [tkM]
  by_cases hc : c = 82
  · subst hc
    by_cases h1 : j = 15 <;> simp [h1]
  · simp [hc])
theorem TmB.tk {μ : Me} {u : Nat → Nat} {N : Nat} (h : TmB μ u N) (b e s v : Int32) (w : Int64) : TmB (tkM μ b e s v w) u N := ⟨by rw [tk_o (by decide) (by decide) (by decide) (by decide)]; exact h.1, h.2.1, fun i hi => by rw [tk_ne (by decide)]; exact h.2.2 i hi⟩
theorem TmB.g {μ : Me} {u : Nat → Nat} {N : Nat} (h : TmB μ u N) (x : Int32) : TmB (uI μ 82 17 x) u N := ⟨by rw [uI_off (by decide)]; exact h.1, h.2.1, fun i hi => by rw [uI_ne (by decide)]; exact h.2.2 i hi⟩
/-- the token at p -/
abbrev isLt (u : Nat → Nat) (i : Nat) : Prop := 97 ≤ u i ∧ u i ≤ 122
abbrev isDg (u : Nat → Nat) (i : Nat) : Prop := 48 ≤ u i ∧ u i ≤ 57
def tkS (u : Nat → Nat) (N p : Nat) : Int32 := if sb u N p < N then (if isLt u (sb u N p) then 1 else if isDg u (sb u N p) then 2 else 3) else 0
def tkE (u : Nat → Nat) (N p : Nat) : Nat := if sb u N p < N then (if isLt u (sb u N p) then wE u N p else if isDg u (sb u N p) then nE u N p else sb u N p + 1) else sb u N p
def wdN (u : Nat → Nat) (b : Nat) : Nat → Nat
  | 0 => 0
  | k + 1 => 27 * wdN u b k + (u (b + k) - 96)
def wdK (u : Nat → Nat) (b k : Nat) : Int64 := if k ≤ 8 then lN (wdN u b k) else -1
def vlK (u : Nat → Nat) (b k : Nat) : Int32 := if k ≤ 2 then nI (nvF u b k) else -1
def tkW (u : Nat → Nat) (N p : Nat) : Int64 := if sb u N p < N ∧ isLt u (sb u N p) then wdK u (sb u N p) (wE u N p - sb u N p) else 0
def tkV (u : Nat → Nat) (N p : Nat) : Int32 := if sb u N p < N ∧ isDg u (sb u N p) then vlK u (sb u N p) (nE u N p - sb u N p) else byN u N (sb u N p)
def TK (μ : Me) (u : Nat → Nat) (N p : Nat) : Me := tkM μ (nI (sb u N p)) (nI (tkE u N p)) (tkS u N p) (tkV u N p) (tkW u N p)
theorem by_32 {u : Nat → Nat} {N k : Nat} (hu : k < N → u k < 256) : byN u N k = 32 ↔ k < N ∧ u k = 32 := by
  unfold byN
  by_cases h : k < N
  · have := hu h
    rw [if_pos h]
    constructor
    · intro z; exact ⟨h, (nI_eq (by omega) (by decide)).mp (show nI (u k) = nI 32 from z)⟩
    · intro z; rw [z.2]; rfl
  · rw [if_neg h]
    constructor
    · intro z; exact absurd z (by decide)
    · intro z; exact absurd z.1 h
theorem by_rng {u : Nat → Nat} {N k lo hi : Nat} (hu : k < N → u k < 256) (hlo : lo < 256) (hhi : hi < 256) : (nI lo ≤ byN u N k ∧ byN u N k ≤ nI hi) ↔ k < N ∧ lo ≤ u k ∧ u k ≤ hi := by
  unfold byN
  by_cases h : k < N
  · have := hu h
    rw [if_pos h, nI_leI (by omega) (by omega), nI_leI (by omega) (by omega)]
    exact ⟨fun z => ⟨h, z⟩, fun z => z.2⟩
  · rw [if_neg h]
    exact ⟨fun z => absurd (Int32.le_trans (nI_pos' (n := lo) (by omega)) z.1) (by decide), fun z => absurd z.1 h⟩
