/-! the reference's words and numbers are the class's -/
theorem sb_in {u : Nat → Nat} {N p : Nat} (hw : sb u N p < wE u N p) : sb u N p < N ∧ isLt u (sb u N p) := wE_let (Nat.le_refl _) hw
theorem wE_gt {u : Nat → Nat} {N p : Nat} (h : sb u N p < N ∧ isLt u (sb u N p)) : sb u N p < wE u N p := by
  have : wE u N p = sc (ltP u) N (sb u N p + 1) := sc_go ⟨h.1, decide_eq_true h.2⟩
  rw [this]
  exact Nat.lt_of_lt_of_le (Nat.lt_succ_self _) sc_ge
theorem nE_gt {u : Nat → Nat} {N p : Nat} (h : sb u N p < N ∧ isDg u (sb u N p)) : sb u N p < nE u N p := by
  have : nE u N p = sc (dgP u) N (sb u N p + 1) := sc_go ⟨h.1, decide_eq_true h.2⟩
  rw [this]
  exact Nat.lt_of_lt_of_le (Nat.lt_succ_self _) sc_ge
def wN (q : Nat) : Nat := ([1253, 257, 397641, 358472] : List Nat).getD q 0
theorem wd_lt {u : Nat → Nat} {b : Nat} : ∀ k, (∀ j, j < k → isLt u (b + j)) → wdN u b k < 27 ^ k
  | 0, _ => by rw [wdN]; decide
  | k + 1, h => by
    have h1 := wd_lt k (fun j hj => h j (by omega))
    have h2 := h k (by omega)
    rw [wdN, Nat.pow_succ]
    omega
theorem wd_0 {u : Nat → Nat} {b n : Nat} (h : ∀ j, j < n → isLt u (b + j)) (q : Fin 4) (hn : n ≤ 8) : wdN u b n = wN q.val ↔ n = ssl.getD q.val 0 ∧ ∀ j, j < ssl.getD q.val 0 → u (b + j) = chN q.val j := by
  have hx : ∀ j, j < n → 1 ≤ u (b + j) - 96 ∧ u (b + j) - 96 ≤ 26 ∧ u (b + j) = (u (b + j) - 96) + 96 := fun j hj => by have := h j hj; omega
  have h5 : n = 0 ∨ n = 1 ∨ n = 2 ∨ n = 3 ∨ n = 4 ∨ (5 ≤ n ∧ n ≤ 8) := by omega
  have hbig : 5 ≤ n → 27 * 27 * 27 * 27 ≤ wdN u b n := by
    intro h5'
    have key : ∀ k, k < n → 27 ^ k ≤ wdN u b (k + 1) := by
      intro k
      induction k with
      | zero =>
        intro hk
        have := hx 0 hk
        rw [wdN, wdN]
        simp only [Nat.add_zero] at this ⊢
        omega
      | succ k ih =>
        intro hk
        have := ih (by omega)
        have h3 : wdN u b (k + 1 + 1) = 27 * wdN u b (k + 1) + (u (b + (k + 1)) - 96) := rfl
        rw [h3, Nat.pow_succ]
        omega
    have h6 := key (n - 1) (by omega)
    rw [show n - 1 + 1 = n by omega] at h6
    have h7 : 27 ^ 4 ≤ 27 ^ (n - 1) := Nat.pow_le_pow_right (by decide) (by omega)
    have h8 : (27 : Nat) ^ 4 = 27 * 27 * 27 * 27 := by decide
    omega
  match q with
  | ⟨0, _⟩ =>
    show wdN u b n = 1253 ↔ n = 3 ∧ ∀ j, j < 3 → u (b + j) = chN 0 j
    constructor
    · intro hw
      rcases h5 with rfl | rfl | rfl | rfl | rfl | h5
      · simp [wdN] at hw
      · have a0 := hx 0 (by decide); simp only [wdN] at hw; omega
      · have a0 := hx 0 (by decide); have a1 := hx 1 (by decide); simp only [wdN] at hw; omega
      · have a0 := hx 0 (by decide); have a1 := hx 1 (by decide); have a2 := hx 2 (by decide); simp only [wdN] at hw
        refine ⟨rfl, fun j hj => ?_⟩
        rcases (show j = 0 ∨ j = 1 ∨ j = 2 by omega) with rfl | rfl | rfl
        · show u (b + 0) = 97; omega
        · show u (b + 1) = 115; omega
        · show u (b + 2) = 107; omega
      · have a0 := hx 0 (by decide); have a1 := hx 1 (by decide); have a2 := hx 2 (by decide); have a3 := hx 3 (by decide); simp only [wdN] at hw; omega
      · have := hbig h5.1; omega
    · rintro ⟨rfl, hc⟩
      have a0 : u (b + 0) = 97 := hc 0 (by decide)
      have a1 : u (b + 1) = 115 := hc 1 (by decide)
      have a2 : u (b + 2) = 107 := hc 2 (by decide)
      simp only [wdN, a0, a1, a2]
  | ⟨1, _⟩ =>
    show wdN u b n = 257 ↔ n = 2 ∧ ∀ j, j < 2 → u (b + j) = chN 1 j
    constructor
    · intro hw
      rcases h5 with rfl | rfl | rfl | rfl | rfl | h5
      · simp [wdN] at hw
      · have a0 := hx 0 (by decide); simp only [wdN] at hw; omega
      · have a0 := hx 0 (by decide); have a1 := hx 1 (by decide); simp only [wdN] at hw
        refine ⟨rfl, fun j hj => ?_⟩
        rcases (show j = 0 ∨ j = 1 by omega) with rfl | rfl
        · show u (b + 0) = 105; omega
        · show u (b + 1) = 110; omega
      · have a0 := hx 0 (by decide); have a1 := hx 1 (by decide); have a2 := hx 2 (by decide); simp only [wdN] at hw; omega
      · have a0 := hx 0 (by decide); have a1 := hx 1 (by decide); have a2 := hx 2 (by decide); have a3 := hx 3 (by decide); simp only [wdN] at hw; omega
      · have := hbig h5.1; omega
    · rintro ⟨rfl, hc⟩
      have a0 : u (b + 0) = 105 := hc 0 (by decide)
      have a1 : u (b + 1) = 110 := hc 1 (by decide)
      simp only [wdN, a0, a1]
  | ⟨2, _⟩ =>
    show wdN u b n = 397641 ↔ n = 4 ∧ ∀ j, j < 4 → u (b + j) = chN 2 j
    constructor
    · intro hw
      rcases h5 with rfl | rfl | rfl | rfl | rfl | h5
      · simp [wdN] at hw
      · have a0 := hx 0 (by decide); simp only [wdN] at hw; omega
      · have a0 := hx 0 (by decide); have a1 := hx 1 (by decide); simp only [wdN] at hw; omega
      · have a0 := hx 0 (by decide); have a1 := hx 1 (by decide); have a2 := hx 2 (by decide); simp only [wdN] at hw; omega
      · have a0 := hx 0 (by decide); have a1 := hx 1 (by decide); have a2 := hx 2 (by decide); have a3 := hx 3 (by decide); simp only [wdN] at hw
        refine ⟨rfl, fun j hj => ?_⟩
        rcases (show j = 0 ∨ j = 1 ∨ j = 2 ∨ j = 3 by omega) with rfl | rfl | rfl | rfl
        · show u (b + 0) = 116; omega
        · show u (b + 1) = 101; omega
        · show u (b + 2) = 108; omega
        · show u (b + 3) = 108; omega
      · have := hbig h5.1; omega
    · rintro ⟨rfl, hc⟩
      have a0 : u (b + 0) = 116 := hc 0 (by decide)
      have a1 : u (b + 1) = 101 := hc 1 (by decide)
      have a2 : u (b + 2) = 108 := hc 2 (by decide)
      have a3 : u (b + 3) = 108 := hc 3 (by decide)
      simp only [wdN, a0, a1, a2, a3]
  | ⟨3, _⟩ =>
    show wdN u b n = 358472 ↔ n = 4 ∧ ∀ j, j < 4 → u (b + j) = chN 3 j
    constructor
    · intro hw
      rcases h5 with rfl | rfl | rfl | rfl | rfl | h5
      · simp [wdN] at hw
      · have a0 := hx 0 (by decide); simp only [wdN] at hw; omega
      · have a0 := hx 0 (by decide); have a1 := hx 1 (by decide); simp only [wdN] at hw; omega
      · have a0 := hx 0 (by decide); have a1 := hx 1 (by decide); have a2 := hx 2 (by decide); simp only [wdN] at hw; omega
      · have a0 := hx 0 (by decide); have a1 := hx 1 (by decide); have a2 := hx 2 (by decide); have a3 := hx 3 (by decide); simp only [wdN] at hw
        refine ⟨rfl, fun j hj => ?_⟩
        rcases (show j = 0 ∨ j = 1 ∨ j = 2 ∨ j = 3 by omega) with rfl | rfl | rfl | rfl
        · show u (b + 0) = 114; omega
        · show u (b + 1) = 101; omega
        · show u (b + 2) = 115; omega
        · show u (b + 3) = 116; omega
      · have := hbig h5.1; omega
    · rintro ⟨rfl, hc⟩
      have a0 : u (b + 0) = 114 := hc 0 (by decide)
      have a1 : u (b + 1) = 101 := hc 1 (by decide)
      have a2 : u (b + 2) = 115 := hc 2 (by decide)
      have a3 : u (b + 3) = 116 := hc 3 (by decide)
      simp only [wdN, a0, a1, a2, a3]
theorem wN_lt : ∀ q : Fin 4, wN q.val < 2 ^ 31 ∧ ¬ (-1 : Int64) = lN (wN q.val) := by decide
theorem word_ok {u : Nat → Nat} {N p q : Nat} (hq : q < 4) : (tkS u N p = 1 ∧ tkW u N p = lN (wN q)) ↔ nmOk u N q p := by
  have hs2 : 2 ≤ ssl.getD q 0 := (ssl_le ⟨q, hq⟩).2
  have hs4 : ssl.getD q 0 ≤ 4 := (ssl_le ⟨q, hq⟩).1
  by_cases hl : sb u N p < N ∧ isLt u (sb u N p)
  · have hgt := wE_gt hl
    have hall : ∀ j, j < wE u N p - sb u N p → isLt u (sb u N p + j) := fun j hj => (wE_let (N := N) (p := p) (by omega) (by omega)).2
    have e1 : tkS u N p = 1 := by rw [tkS, if_pos hl.1, if_pos hl.2]
    have e2 : tkW u N p = wdK u (sb u N p) (wE u N p - sb u N p) := by rw [tkW, if_pos hl]
    rw [e1, e2, wdK]
    by_cases h8 : wE u N p - sb u N p ≤ 8
    · rw [if_pos h8]
      have hlt := wd_lt _ hall
      have hp : 27 ^ (wE u N p - sb u N p) ≤ 27 ^ 8 := Nat.pow_le_pow_right (by decide) h8
      have h27 : (27 : Nat) ^ 8 < 2 ^ 63 := by decide
      rw [fb_lN_inj (by omega) (by have := (wN_lt ⟨q, hq⟩).1; have : wN q < 2 ^ 31 := this; omega)]
      have := wd_0 hall ⟨q, hq⟩ h8
      simp only at this
      rw [this]
      exact ⟨fun z => z.2, fun z => ⟨rfl, z⟩⟩
    · rw [if_neg h8]
      exact ⟨fun z => absurd z.2 (wN_lt ⟨q, hq⟩).2, fun z => by have := z.1; omega⟩
  · have e1 : ¬ tkS u N p = 1 := by
      rw [tkS]
      by_cases h1 : sb u N p < N
      · rw [if_pos h1, if_neg (fun z => hl ⟨h1, z⟩)]
        split <;> decide
      · rw [if_neg h1]; decide
    exact ⟨fun z => absurd z.1 e1, fun z => absurd (sb_in (u := u) (N := N) (p := p) (by have := z.1; omega)) hl⟩
theorem num_ok {u : Nat → Nat} {N p lo hi : Nat} (h1 : 1 ≤ lo) (h2 : lo ≤ 99) (h3 : hi ≤ 99) : (tkS u N p = 2 ∧ nI lo ≤ tkV u N p ∧ tkV u N p ≤ nI hi) ↔ nuOk u N lo hi p := by
  by_cases hl : sb u N p < N ∧ isDg u (sb u N p)
  · have hgt := nE_gt hl
    have hnl : ¬ isLt u (sb u N p) := fun z => by have := hl.2.2; have := z.1; omega
    have e1 : tkS u N p = 2 := by rw [tkS, if_pos hl.1, if_neg hnl, if_pos hl.2]
    have e2 : tkV u N p = vlK u (sb u N p) (nE u N p - sb u N p) := by rw [tkV, if_pos hl]
    rw [e1, e2, vlK]
    by_cases h8 : nE u N p - sb u N p ≤ 2
    · have hv := nV_le h8
      rw [if_pos h8]
      show (_ ∧ nI lo ≤ nI (nV u N p) ∧ nI (nV u N p) ≤ nI hi) ↔ _
      rw [nI_leI (by omega) (by omega), nI_leI (by omega) (by omega)]
      exact ⟨fun z => ⟨⟨by omega, h8⟩, z.2⟩, fun z => ⟨rfl, z.2⟩⟩
    · rw [if_neg h8]
      exact ⟨fun z => absurd (Int32.le_trans (nI_pos' (n := lo) (by omega)) z.2.1) (by decide), fun z => absurd z.1.2 h8⟩
  · have e1 : ¬ tkS u N p = 2 := by
      rw [tkS]
      by_cases h1 : sb u N p < N
      · rw [if_pos h1]
        split
        · decide
        · rw [if_neg (fun z => hl ⟨h1, z⟩)]; decide
      · rw [if_neg h1]; decide
    exact ⟨fun z => absurd z.1 e1, fun z => absurd (nE_dig (u := u) (N := N) (p := p) (Nat.le_refl _) (by have := z.1.1; omega)) hl⟩
theorem mark_ok {u : Nat → Nat} {N p : Nat} (hu : sb u N p < N → u (sb u N p) < 256) : (tkS u N p = 3 ∧ tkV u N p = 59) ↔ smOk u N p := by
  by_cases hN : sb u N p < N
  · have := hu hN
    by_cases hl : isLt u (sb u N p)
    · have e1 : tkS u N p = 1 := by rw [tkS, if_pos hN, if_pos hl]
      rw [e1]
      exact ⟨fun z => absurd z.1 (by decide), fun z => by have := z.2; have := hl.1; omega⟩
    · by_cases hd : isDg u (sb u N p)
      · have e1 : tkS u N p = 2 := by rw [tkS, if_pos hN, if_neg hl, if_pos hd]
        rw [e1]
        exact ⟨fun z => absurd z.1 (by decide), fun z => by have := z.2; have := hd.2; omega⟩
      · have e1 : tkS u N p = 3 := by rw [tkS, if_pos hN, if_neg hl, if_neg hd]
        have e2 : tkV u N p = nI (u (sb u N p)) := by rw [tkV, if_neg (fun z => hd z.2), by_n hN]
        rw [e1, e2]
        exact ⟨fun z => ⟨hN, (nI_eq (by omega) (by decide)).mp (show nI (u (sb u N p)) = nI 59 from z.2)⟩, fun z => ⟨rfl, by rw [z.2]; rfl⟩⟩
  · have e1 : tkS u N p = 0 := by rw [tkS, if_neg hN]
    rw [e1]
    exact ⟨fun z => absurd z.1 (by decide), fun z => absurd z.1 hN⟩
theorem tkE_w {u : Nat → Nat} {N p q : Nat} (hq : q < 4) (h : nmOk u N q p) : tkE u N p = wE u N p := by
  have hs2 : 2 ≤ ssl.getD q 0 := (ssl_le ⟨q, hq⟩).2
  have hl := sb_in (u := u) (N := N) (p := p) (by have := h.1; omega)
  rw [tkE, if_pos hl.1, if_pos hl.2]
theorem tkE_n {u : Nat → Nat} {N p lo hi : Nat} (h : nuOk u N lo hi p) : tkE u N p = nE u N p ∧ tkV u N p = nI (nV u N p) := by
  have hl := nE_dig (u := u) (N := N) (p := p) (Nat.le_refl _) (by have := h.1.1; omega)
  have hnl : ¬ isLt u (sb u N p) := fun z => by have := hl.2.2; have := z.1; omega
  refine ⟨by rw [tkE, if_pos hl.1, if_neg hnl, if_pos hl.2], ?_⟩
  rw [tkV, if_pos hl, vlK, if_pos h.1.2]
  rfl
theorem tkE_s {u : Nat → Nat} {N p : Nat} (h : smOk u N p) : tkE u N p = sb u N p + 1 := by
  have h2 := h.2
  rw [tkE, if_pos h.1, if_neg (fun z => by have := z.1; omega), if_neg (fun z => by have := z.2; omega)]
theorem tkE_le {u : Nat → Nat} {N p : Nat} (hp : p ≤ N) : tkE u N p ≤ N := by
  rw [tkE]
  split
  · split
    · exact wE_le hp
    · split
      · exact nE_le hp
      · omega
  · exact sb_le hp
/-- the memory with the token at p, and whether all is good so far -/
def TG (μ : Me) (u : Nat → Nat) (N : Nat) (g : Int32) (p : Nat) : Me := TK (uI μ 82 17 g) u N p
set_option maxHeartbeats 400000 in
theorem c_adv {μ : Me} {u : Nat → Nat} {N p : Nat} (h : TmB μ u N) (hp : p ≤ N) (g : Int32) : CtV m_M_advance 2 [.ref 82] (TG μ u N g p) (TG μ u N g (tkE u N p)) := c_M_advance (h.g g) (tkE_le hp) _ _ _ _
set_option maxHeartbeats 400000 in
theorem c_iw_y {μ : Me} {u : Nat → Nat} {N p q : Nat} (g : Int32) (hq : q < 4) (hk : nmOk u N q p) : CtI m_M_isWord 0 [.ref 82, .long (lN (wN q))] (TG μ u N g p) 1 (TG μ u N g p) := by
  have := c_M_isWord (lN (wN q)) (TG μ u N g p)
  rw [← bz_t (by rw [TG, TK, tk_r12, tk_r15]; exact (word_ok hq).mpr hk)] at this
  exact this
set_option maxHeartbeats 400000 in
theorem c_iw_n {μ : Me} {u : Nat → Nat} {N p q : Nat} (g : Int32) (hq : q < 4) (hk : ¬ nmOk u N q p) : CtI m_M_isWord 0 [.ref 82, .long (lN (wN q))] (TG μ u N g p) 0 (TG μ u N g p) := by
  have := c_M_isWord (lN (wN q)) (TG μ u N g p)
  rw [← bz_f (by rw [TG, TK, tk_r12, tk_r15]; exact fun z => hk ((word_ok hq).mp z))] at this
  exact this
set_option maxHeartbeats 400000 in
theorem c_im_y {μ : Me} {u : Nat → Nat} {N p : Nat} (h : TmB μ u N) (g : Int32) (hk : smOk u N p) : CtI m_M_isMark 0 [.ref 82, .int 59] (TG μ u N g p) 1 (TG μ u N g p) := by
  have := c_M_isMark 59 (TG μ u N g p)
  rw [← bz_t (by rw [TG, TK, tk_r12, tk_r16]; exact (mark_ok h.u256).mpr hk)] at this
  exact this
set_option maxHeartbeats 400000 in
theorem c_im_n {μ : Me} {u : Nat → Nat} {N p : Nat} (h : TmB μ u N) (g : Int32) (hk : ¬ smOk u N p) : CtI m_M_isMark 0 [.ref 82, .int 59] (TG μ u N g p) 0 (TG μ u N g p) := by
  have := c_M_isMark 59 (TG μ u N g p)
  rw [← bz_f (by rw [TG, TK, tk_r12, tk_r16]; exact fun z => hk ((mark_ok h.u256).mp z))] at this
  exact this
theorem tg_17 {μ : Me} {u : Nat → Nat} {N p : Nat} {g x : Int32} : uI (TG μ u N g p) 82 17 x = TG μ u N x p := tk_17
theorem tg_r17 {μ : Me} {u : Nat → Nat} {N p : Nat} {g : Int32} : (TG μ u N g p).1 82 17 = g := tk_r17
theorem tg_r12 {μ : Me} {u : Nat → Nat} {N p : Nat} {g : Int32} : (TG μ u N g p).1 82 12 = tkS u N p := tk_r12
theorem tg_r16 {μ : Me} {u : Nat → Nat} {N p : Nat} {g : Int32} : (TG μ u N g p).1 82 16 = tkV u N p := tk_r16
theorem tg_r13 {μ : Me} {u : Nat → Nat} {N p : Nat} {g : Int32} : (TG μ u N g p).1 82 13 = nI (sb u N p) := tk_r13
theorem tg_90 {μ : Me} {u : Nat → Nat} {N p k : Nat} {g x : Int32} : uI (TG μ u N g p) 90 k x = TG (uI μ 90 k x) u N g p := tk_90
set_option maxHeartbeats 400000 in
theorem c_wn_y {μ : Me} {u : Nat → Nat} {N p lo hi : Nat} (h : TmB μ u N) (hp : p ≤ N) (h1 : 1 ≤ lo) (h2 : lo ≤ 99) (h3 : hi ≤ 99) (hk : nuOk u N lo hi p) : CtI m_M_wantNumber 3 [.ref 82, .int (nI lo), .int (nI hi)] (TG μ u N 1 p) (nI (nV u N p)) (TG μ u N 1 (nE u N p)) := by
  refine Ct.of (ls := [.ref 82, .int (nI lo), .int (nI hi), flr]) rfl (Nat.le_of_ble_eq_true rfl) rfl (fun X => ?_)
  obtain ⟨e1, e2⟩ := tkE_n hk
  obtain ⟨k1, k2⟩ := (num_ok h1 h2 h3).mpr hk
  have ca := c_adv h hp 1
  rw [e1] at ca
  refine r_aload_n 0 d_M_wantNumber_0 rfl rfl ?_
  refine r_getI fl_M_252 (by first | with_reducible assumption | rfl) rfl d_M_wantNumber_1 ?_
  rw [tg_r16]
  refine r_istore_n 3 [_, _, _, _] d_M_wantNumber_4 rfl (by decide) rfl ?_
  refine r_aload_n 0 d_M_wantNumber_5 rfl rfl ?_
  refine r_aload_n 0 d_M_wantNumber_6 rfl rfl ?_
  refine r_getI fl_M_259 (by first | with_reducible assumption | rfl) rfl d_M_wantNumber_7 ?_
  rw [tg_r17]
  refine r_if_eq d_M_wantNumber_10 (fun h10 => absurd h10 (by decide)) (fun h10 => ?_)
  refine r_aload_n 0 d_M_wantNumber_13 rfl rfl ?_
  refine r_getI fl_M_245 (by first | with_reducible assumption | rfl) rfl d_M_wantNumber_14 ?_
  rw [tg_r12]
  refine r_iconst 2 d_M_wantNumber_17 rfl ?_
  refine r_icmp_ne d_M_wantNumber_18 (fun h18 => absurd k1 h18) (fun h18 => ?_)
  refine r_iload_n 3 d_M_wantNumber_21 rfl rfl ?_
  refine r_iload_n 1 d_M_wantNumber_22 rfl rfl ?_
  refine r_iload_n 2 d_M_wantNumber_23 rfl rfl ?_
  refine r_callSi (c_M_in _ _ _ _) lk_M_72 d_M_wantNumber_24 rfl rfl (Nat.le_of_ble_eq_true rfl) (by decide) ?_
  refine r_if_eq d_M_wantNumber_27 (fun h27 => absurd h27 (bzy k2)) (fun h27 => ?_)
  refine r_iconst 1 d_M_wantNumber_30 rfl ?_
  refine r_goto d_M_wantNumber_31 ?_
  refine r_putZ fp_M_259 (by first | with_reducible assumption | rfl) rfl (by first | exact Or.inl rfl | exact Or.inr rfl | assumption) d_M_wantNumber_35 ?_
  refine Wa.eqM tg_17 ?_
  refine r_aload_n 0 d_M_wantNumber_38 rfl rfl ?_
  refine r_getI fl_M_259 (by first | with_reducible assumption | rfl) rfl d_M_wantNumber_39 ?_
  rw [tg_r17]
  refine r_if_eq d_M_wantNumber_42 (fun h42 => absurd h42 (by decide)) (fun h42 => ?_)
  refine r_aload_n 0 d_M_wantNumber_45 rfl rfl ?_
  refine r_callVv ca lk_M_263 (by first | with_reducible assumption | rfl) d_M_wantNumber_46 rfl rfl (Nat.le_of_ble_eq_true rfl) (by decide) ?_
  refine r_iload_n 3 d_M_wantNumber_49 rfl rfl ?_
  refine r_iret .int d_M_wantNumber_50 rfl rfl ?_
  exact ⟨by rw [e2], rfl⟩
set_option maxHeartbeats 400000 in
theorem c_wn_0 {μ : Me} {u : Nat → Nat} {N p : Nat} (lo hi : Int32) : CtI m_M_wantNumber 3 [.ref 82, .int lo, .int hi] (TG μ u N 0 p) (tkV u N p) (TG μ u N 0 p) := by
  refine Ct.of (ls := [.ref 82, .int lo, .int hi, flr]) rfl (Nat.le_of_ble_eq_true rfl) rfl (fun X => ?_)
  refine r_aload_n 0 d_M_wantNumber_0 rfl rfl ?_
  refine r_getI fl_M_252 (by first | with_reducible assumption | rfl) rfl d_M_wantNumber_1 ?_
  rw [tg_r16]
  refine r_istore_n 3 [_, _, _, _] d_M_wantNumber_4 rfl (by decide) rfl ?_
  refine r_aload_n 0 d_M_wantNumber_5 rfl rfl ?_
  refine r_aload_n 0 d_M_wantNumber_6 rfl rfl ?_
  refine r_getI fl_M_259 (by first | with_reducible assumption | rfl) rfl d_M_wantNumber_7 ?_
  rw [tg_r17]
  refine r_if_eq d_M_wantNumber_10 (fun h10 => ?_) (fun h10 => absurd rfl h10)
  refine r_iconst 0 d_M_wantNumber_34 rfl ?_
  refine r_putZ fp_M_259 (by first | with_reducible assumption | rfl) rfl (by first | exact Or.inl rfl | exact Or.inr rfl | assumption) d_M_wantNumber_35 ?_
  refine Wa.eqM tg_17 ?_
  refine r_aload_n 0 d_M_wantNumber_38 rfl rfl ?_
  refine r_getI fl_M_259 (by first | with_reducible assumption | rfl) rfl d_M_wantNumber_39 ?_
  rw [tg_r17]
  refine r_if_eq d_M_wantNumber_42 (fun h42 => ?_) (fun h42 => absurd rfl h42)
  refine r_iload_n 3 d_M_wantNumber_49 rfl rfl ?_
  refine r_iret .int d_M_wantNumber_50 rfl rfl ?_
  exact ⟨rfl, rfl⟩
set_option maxHeartbeats 400000 in
theorem c_wn_n {μ : Me} {u : Nat → Nat} {N p lo hi : Nat} (h1 : 1 ≤ lo) (h2 : lo ≤ 99) (h3 : hi ≤ 99) (hk : ¬ nuOk u N lo hi p) : CtI m_M_wantNumber 3 [.ref 82, .int (nI lo), .int (nI hi)] (TG μ u N 1 p) (tkV u N p) (TG μ u N 0 p) := by
  refine Ct.of (ls := [.ref 82, .int (nI lo), .int (nI hi), flr]) rfl (Nat.le_of_ble_eq_true rfl) rfl (fun X => ?_)
  have hno : ∀ k1 : tkS u N p = 2, ¬ (nI lo ≤ tkV u N p ∧ tkV u N p ≤ nI hi) := fun k1 z => hk ((num_ok h1 h2 h3).mp ⟨k1, z⟩)
  by_cases k1 : tkS u N p = 2
  · skip
    refine r_aload_n 0 d_M_wantNumber_0 rfl rfl ?_
    refine r_getI fl_M_252 (by first | with_reducible assumption | rfl) rfl d_M_wantNumber_1 ?_
    rw [tg_r16]
    refine r_istore_n 3 [_, _, _, _] d_M_wantNumber_4 rfl (by decide) rfl ?_
    refine r_aload_n 0 d_M_wantNumber_5 rfl rfl ?_
    refine r_aload_n 0 d_M_wantNumber_6 rfl rfl ?_
    refine r_getI fl_M_259 (by first | with_reducible assumption | rfl) rfl d_M_wantNumber_7 ?_
    rw [tg_r17]
    refine r_if_eq d_M_wantNumber_10 (fun h10 => absurd h10 (by decide)) (fun h10 => ?_)
    refine r_aload_n 0 d_M_wantNumber_13 rfl rfl ?_
    refine r_getI fl_M_245 (by first | with_reducible assumption | rfl) rfl d_M_wantNumber_14 ?_
    rw [tg_r12]
    refine r_iconst 2 d_M_wantNumber_17 rfl ?_
    refine r_icmp_ne d_M_wantNumber_18 (fun h18 => absurd k1 h18) (fun h18 => ?_)
    refine r_iload_n 3 d_M_wantNumber_21 rfl rfl ?_
    refine r_iload_n 1 d_M_wantNumber_22 rfl rfl ?_
    refine r_iload_n 2 d_M_wantNumber_23 rfl rfl ?_
    refine r_callSi (c_M_in _ _ _ _) lk_M_72 d_M_wantNumber_24 rfl rfl (Nat.le_of_ble_eq_true rfl) (by decide) ?_
    refine r_if_eq d_M_wantNumber_27 (fun h27 => ?_) (fun h27 => absurd (bzn (hno k1)) h27)
    refine r_iconst 0 d_M_wantNumber_34 rfl ?_
    refine r_putZ fp_M_259 (by first | with_reducible assumption | rfl) rfl (by first | exact Or.inl rfl | exact Or.inr rfl | assumption) d_M_wantNumber_35 ?_
    refine Wa.eqM tg_17 ?_
    refine r_aload_n 0 d_M_wantNumber_38 rfl rfl ?_
    refine r_getI fl_M_259 (by first | with_reducible assumption | rfl) rfl d_M_wantNumber_39 ?_
    rw [tg_r17]
    refine r_if_eq d_M_wantNumber_42 (fun h42 => ?_) (fun h42 => absurd rfl h42)
    refine r_iload_n 3 d_M_wantNumber_49 rfl rfl ?_
    refine r_iret .int d_M_wantNumber_50 rfl rfl ?_
    exact ⟨rfl, rfl⟩
  · skip
    refine r_aload_n 0 d_M_wantNumber_0 rfl rfl ?_
    refine r_getI fl_M_252 (by first | with_reducible assumption | rfl) rfl d_M_wantNumber_1 ?_
    rw [tg_r16]
    refine r_istore_n 3 [_, _, _, _] d_M_wantNumber_4 rfl (by decide) rfl ?_
    refine r_aload_n 0 d_M_wantNumber_5 rfl rfl ?_
    refine r_aload_n 0 d_M_wantNumber_6 rfl rfl ?_
    refine r_getI fl_M_259 (by first | with_reducible assumption | rfl) rfl d_M_wantNumber_7 ?_
    rw [tg_r17]
    refine r_if_eq d_M_wantNumber_10 (fun h10 => absurd h10 (by decide)) (fun h10 => ?_)
    refine r_aload_n 0 d_M_wantNumber_13 rfl rfl ?_
    refine r_getI fl_M_245 (by first | with_reducible assumption | rfl) rfl d_M_wantNumber_14 ?_
    rw [tg_r12]
    refine r_iconst 2 d_M_wantNumber_17 rfl ?_
    refine r_icmp_ne d_M_wantNumber_18 (fun h18 => ?_) (fun h18 => absurd h18 k1)
    refine r_iconst 0 d_M_wantNumber_34 rfl ?_
    refine r_putZ fp_M_259 (by first | with_reducible assumption | rfl) rfl (by first | exact Or.inl rfl | exact Or.inr rfl | assumption) d_M_wantNumber_35 ?_
    refine Wa.eqM tg_17 ?_
    refine r_aload_n 0 d_M_wantNumber_38 rfl rfl ?_
    refine r_getI fl_M_259 (by first | with_reducible assumption | rfl) rfl d_M_wantNumber_39 ?_
    rw [tg_r17]
    refine r_if_eq d_M_wantNumber_42 (fun h42 => ?_) (fun h42 => absurd rfl h42)
    refine r_iload_n 3 d_M_wantNumber_49 rfl rfl ?_
    refine r_iret .int d_M_wantNumber_50 rfl rfl ?_
    exact ⟨rfl, rfl⟩
