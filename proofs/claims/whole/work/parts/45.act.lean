/-! a switch on a known number -/
theorem r_tsK {X : Nat × (Nat → Int32)} {mt : MT} {d pc : Nat} {ls st : List Value} {μ : Me} {Q : Option Value → Me → Prop} {x : Int32} {tg : List (Int32 × Nat)} {dt : Nat} {q : Int32 × Nat} (j : Nat) (hd : Ts mt pc tg dt) (hj : tg[j]? = some q) (hx : x = q.1) (k : Wa X mt d q.2 ls st μ Q) : Wa X mt d pc ls (.int x :: st) μ Q := by
  have hd' := hd
  obtain ⟨dflt, lo, hi, offs, len, hd, hdt, hok⟩ := hd
  simp only [tsOk, Bool.and_eq_true, decide_eq_true_eq, List.all_eq_true, List.mem_range] at hok
  obtain ⟨⟨h1, h2⟩, h3⟩ := hok
  have key : ∀ (i : Nat) (q : Int32 × Nat), tg[i]? = some q → q.1.toInt = lo + i := by
    intro i q hi
    have hl := (List.getElem?_eq_some_iff.mp hi).1
    have := h3 i hl
    rw [hi] at this
    cases ho : offs[i]? with
    | none => rw [ho] at this; simp at this
    | some o =>
      rw [ho] at this
      simp only [Bool.and_eq_true, decide_eq_true_eq] at this
      exact this.1
  refine r_ts hd' (fun q' hq' hxq => ?_) (fun hno => absurd hx (hno q (List.mem_of_getElem? hj)))
  obtain ⟨i, hi⟩ := List.getElem?_of_mem hq'
  have e1 := key i q' hi
  have e2 := key j q hj
  rw [← hxq, hx] at e1
  have e3 : i = j := by omega
  subst e3
  rw [hj] at hi
  cases hi
  exact k

/-! ACTS: the thing, THE TRACE and whether it was parted by 0 -/
abbrev DS : Type := Bool × Nat × (Nat → Int32)
def dM (μ : Me) (s : DS) : Me := uI (uI (rI μ 69 s.2.2) 68 3 (bz (s.1 = true))) 68 5 (nI s.2.1)
theorem dM_lo {μ : Me} {s : DS} {j : Nat} (h : j < 3) : (dM μ s).1 68 j = μ.1 68 j := by rw [dM, uI_off (by omega), uI_off (by omega), rI_ne (by decide)]
theorem dM_3 {μ : Me} {s : DS} : (dM μ s).1 68 3 = bz (s.1 = true) := by rw [dM, uI_off (by decide), uI_at]
theorem dM_5 {μ : Me} {s : DS} : (dM μ s).1 68 5 = nI s.2.1 := by rw [dM, uI_at]
theorem dM_69 {μ : Me} {s : DS} : (dM μ s).1 69 = s.2.2 := by rw [dM, uI_ne (by decide), uI_ne (by decide), rI_eq]
theorem dM_ne {μ : Me} {s : DS} {c : Nat} (h : c ≠ 68) (h2 : c ≠ 69) : (dM μ s).1 c = μ.1 c := by rw [dM, uI_ne h, uI_ne h, rI_ne h2]
def begD (s : DS) (b : Int32) : DS := if s.2.1 < 30 then (s.1, s.2.1 + 1, upd s.2.2 s.2.1 b) else s
set_option maxHeartbeats 400000 in
theorem c_begin (b : Int32) (μ : Me) (s : DS) (hs : s.2.1 ≤ 30) (hp : s.1 = false) : CtI m_Doer_begin 0 [.ref 68, .int b] (dM μ s) 1 (dM μ (begD s b)) := by
  have h := c_Doer_begin b s.2.1 hs (dM μ s) dM_5
  rw [dM_3, hp] at h
  have e : (if (bz (false = true) : Int32) = 0 ∧ s.2.1 < 30 then uI (uI (dM μ s) 69 s.2.1 b) 68 5 (nI (s.2.1 + 1)) else dM μ s) = dM μ (begD s b) := by
    rw [begD]
    by_cases hl : s.2.1 < 30
    · rw [if_pos ⟨by decide, hl⟩, if_pos hl]
      refine Me_ext (fun c' j' => ?_) (fun _ _ => rfl)
      by_cases h1 : c' = 68
      · subst h1
        by_cases h5 : j' = 5
        · subst h5; rw [uI_at, dM_5]
        · rw [uI_off h5, uI_ne (by decide), dM, uI_off h5, dM, uI_off h5]
          by_cases h3 : j' = 3
          · subst h3; rw [uI_at, uI_at]
          · rw [uI_off h3, uI_off h3, rI_ne (by decide), rI_ne (by decide)]
      · rw [uI_ne h1]
        by_cases h2 : c' = 69
        · subst h2; rw [uI_eq, dM_69, dM_69]
        · rw [uI_ne h2, dM_ne h1 h2, dM_ne h1 h2]
    · rw [if_neg (fun z => hl z.2), if_neg hl]
  rw [e] at h
  exact h
set_option maxHeartbeats 400000 in
theorem c_part (x : Int32) (μ : Me) (s : DS) : CtI m_Doer_partEvenly 0 [.ref 68, .int x] (dM μ s) (if μ.1 68 2 - μ.1 68 1 = 0 then 0 else x / (μ.1 68 2 - μ.1 68 1)) (dM μ (decide (μ.1 68 2 - μ.1 68 1 = 0), s.2)) := by
  have h := c_Doer_partEvenly x (dM μ s)
  rw [dM_lo (by decide), dM_lo (by decide)] at h
  have e : uI (dM μ s) 68 3 (bz (μ.1 68 2 - μ.1 68 1 = 0)) = dM μ (decide (μ.1 68 2 - μ.1 68 1 = 0), s.2) := by
    refine Me_ext (fun c' j' => ?_) (fun _ _ => rfl)
    by_cases h1 : c' = 68
    · subst h1
      by_cases h3 : j' = 3
      · subst h3; rw [uI_at, dM_3]; exact bz_congr (by simp)
      · rw [uI_off h3, dM, dM]
        by_cases h5 : j' = 5
        · subst h5; rw [uI_at, uI_at]
        · rw [uI_off h5, uI_off h5, uI_off h3, uI_off h3]
    · rw [uI_ne h1, dM, dM, uI_ne h1, uI_ne h1, uI_ne h1, uI_ne h1]
  rw [e] at h
  exact h
def bd (w k : Nat) : Nat := (([[10, 10, 30, 40, 51, 10], [11, 20, 11, 41, 20, 11], [12, 12, 12, 12, 50, 61], [13, 13, 31, 31, 13, 60]] : List (List Nat)).getD w []).getD k 0
theorem bd_eq : ∀ w : Fin 4, ∀ k : Fin 6, bodyS (nI w.val) k.val = nI (bd w.val k.val) := by decide
set_option maxHeartbeats 400000 in
theorem c_bodyOf (w k : Nat) (hw : w < 4) (hk : k < 6) (μ : Me) (s : DS) (hm : μ.1 68 0 = nI k) : CtI m_Doer_bodyOf 0 [.ref 68, .int (nI w)] (dM μ s) (nI (bd w k)) (dM μ s) := by
  have h := c_Doer_bodyOf (nI w) k hk (dM μ s) (by rw [dM_lo (by decide), hm])
  rw [bd_eq ⟨w, hw⟩ ⟨k, hk⟩] at h
  exact h
/-- a body, with f bodies at most in it -/
def rnB (k : Nat) (n a : Int32) (R : Nat → Int32 → DS → Option (Int32 × DS)) (b : Nat) (x : Int32) (s : DS) : Option (Int32 × DS) := match b with
    | 10 => some (x + n, begD s 10)
    | 11 => (R (bd 0 k) x (begD s 11)).bind (fun r => some (r.1 * 2, r.2))
    | 12 => some (if a - n = 0 then 0 else x / (a - n), (decide (a - n = 0), (begD s 12).2))
    | 13 => (R (bd 1 k) x (begD s 13)).bind (fun r => some (r.1 ^^^ a, r.2))
    | 20 => (R 11 x (begD s 20)).bind (fun r => some (r.1 - a, r.2))
    | 30 => (R 10 x (begD s 30)).bind (fun r => some (r.1 * 3, r.2))
    | 31 => (R 13 x (begD s 31)).bind (fun r => (R (bd 2 k) n r.2).bind (fun q => some (r.1 + q.1, q.2)))
    | 40 => (R 30 x (begD s 40)).bind (fun r => some (0 - r.1, r.2))
    | 41 => (R 11 x (begD s 41)).bind (fun r => (R (bd 0 k) n r.2).bind (fun q => some (r.1 + q.1, q.2)))
    | 50 => (R 12 (x + 2) (begD s 50)).bind (fun r => some (r.1 ^^^ 1, r.2))
    | 51 => (R 10 x (begD s 51)).bind (fun r => some (r.1 - n, r.2))
    | 60 => (R 13 x (begD s 60)).bind (fun r => some (r.1 * 2, r.2))
    | 61 => (R 12 x (begD s 61)).bind (fun r => (R (bd 0 k) a r.2).bind (fun q => some (r.1 + q.1, q.2)))
    | _ => none
def rn (k : Nat) (n a : Int32) : Nat → Nat → Int32 → DS → Option (Int32 × DS)
  | 0 => fun _ _ _ => none
  | f + 1 => fun b x s => if s.1 = true then some (0, s) else rnB k n a (rn k n a f) b x s
theorem begD_le {s : DS} {b : Int32} (h : s.2.1 ≤ 30) : (begD s b).2.1 ≤ 30 := by
  unfold begD
  split
  · show s.2.1 + 1 ≤ 30; omega
  · exact h
theorem begD_1 {s : DS} {b : Int32} : (begD s b).1 = s.1 := by unfold begD; split <;> rfl
set_option maxHeartbeats 400000 in
theorem c_run (k : Nat) (hk : k < 6) (μ : Me) (hm : μ.1 68 0 = nI k) : ∀ (f b : Nat) (x : Int32) (dp : Nat) (s : DS) (v : Int32) (t : DS), dp + f ≤ 20 → s.2.1 ≤ 30 → rn k (μ.1 68 1) (μ.1 68 2) f b x s = some (v, t) → t.2.1 ≤ 30 ∧ CtI m_S_run (f + 1) [.ref 68, .int (nI b), .int x, .int (nI dp)] (dM μ s) v (dM μ t) := by
  intro f
  induction f with
  | zero => intro b x dp s v t _ _ h; rw [rn] at h; cases h
  | succ f ih =>
    intro b x dp s v t hd hs h
    rw [rn] at h
    dsimp only at h
    split at h
    · rename_i hp
      cases h
      refine ⟨hs, ?_⟩
      have hb0 := c_Doer_begin (nI b) s.2.1 hs (dM μ s) dM_5
      rw [dM_3, hp, if_neg (fun z => absurd z.1 (by decide))] at hb0
      refine Ct.of (ls := [.ref 68, .int (nI b), .int x, .int (nI dp), flr, flr, flr]) rfl (Nat.le_of_ble_eq_true rfl) rfl (fun X => ?_)
      refine r_iload_n 3 d_S_run_0 rfl rfl ?_
      refine r_bipush (20) d_S_run_1 (by decide) ?_
      refine r_icmp_gt d_S_run_3 (fun h3 => absurd h3 (nI_ge (show dp < 20 + 1 by omega) (by decide))) (fun h3 => ?_)
      refine r_aload_n 0 d_S_run_6 rfl rfl ?_
      refine r_iload_n 1 d_S_run_7 rfl rfl ?_
      refine r_callVi hb0 lk_S_397 (by first | with_reducible assumption | rfl) d_S_run_8 rfl rfl (Nat.le_of_ble_eq_true rfl) (by omega) ?_
      refine r_if_ne d_S_run_11 (fun h11 => absurd (by decide) h11) (fun h11 => ?_)
      refine r_iconst 0 d_S_run_14 rfl ?_
      refine r_iret .int d_S_run_15 rfl rfl ?_
      exact ⟨rfl, rfl⟩
    · rename_i hp
      have hp : s.1 = false := by cases hh : s.1 with
        | true => exact absurd hh hp
        | false => rfl

      unfold rnB at h
      split at h
      · -- body 10
        cases h
        refine ⟨begD_le hs, ?_⟩
        refine Ct.of (ls := [.ref 68, .int (nI 10), .int x, .int (nI dp), flr, flr, flr]) rfl (Nat.le_of_ble_eq_true rfl) rfl (fun X => ?_)
        refine r_iload_n 3 d_S_run_0 rfl rfl ?_
        refine r_bipush (20) d_S_run_1 (by decide) ?_
        refine r_icmp_gt d_S_run_3 (fun h3 => absurd h3 (nI_ge (show dp < 20 + 1 by omega) (by decide))) (fun h3 => ?_)
        refine r_aload_n 0 d_S_run_6 rfl rfl ?_
        refine r_iload_n 1 d_S_run_7 rfl rfl ?_
        refine r_callVi (c_begin _ _ _ hs hp) lk_S_397 (by first | with_reducible assumption | rfl) d_S_run_8 rfl rfl (Nat.le_of_ble_eq_true rfl) (by omega) ?_
        refine r_if_ne d_S_run_11 (fun h11 => ?_) (fun h11 => absurd h11 (by decide))
        refine r_aload_n 0 d_S_run_16 rfl rfl ?_
        refine r_getI fl_S_400 (by first | with_reducible assumption | rfl) rfl d_S_run_17 ?_
        rw [dM_lo (by decide)]
        refine r_istore 4 [_, _, _, _, _, _, _] d_S_run_20 (by decide) rfl ?_
        refine r_aload_n 0 d_S_run_22 rfl rfl ?_
        refine r_getI fl_S_403 (by first | with_reducible assumption | rfl) rfl d_S_run_23 ?_
        rw [dM_lo (by decide)]
        refine r_istore 5 [_, _, _, _, _, _, _] d_S_run_26 (by decide) rfl ?_
        refine r_iload_n 3 d_S_run_28 rfl rfl ?_
        refine r_iconst 1 d_S_run_29 rfl ?_
        refine r_iadd d_S_run_30 ?_
        rw [nI_1]
        refine r_istore 6 [_, _, _, _, _, _, _] d_S_run_31 (by decide) rfl ?_
        refine r_iload_n 1 d_S_run_33 rfl rfl ?_
        refine r_tsK 0 d_S_run_34 rfl (by decide) ?_
        refine r_iload_n 2 d_S_run_256 rfl rfl ?_
        refine r_iload 4 d_S_run_257 rfl ?_
        refine r_iadd d_S_run_259 ?_
        refine r_iret .int d_S_run_260 rfl rfl ?_
        exact ⟨rfl, rfl⟩
      · -- body 11
        cases hr0 : rn k (μ.1 68 1) (μ.1 68 2) f (bd 0 k) (x) (begD s 11) with
        | none => rw [hr0] at h; cases h
        | some r0 =>
          rw [hr0, Option.bind_some] at h
          cases h
          have hc0 := ih _ _ (dp + 1) _ r0.1 r0.2 (by omega) (begD_le hs) hr0
          refine ⟨hc0.1, ?_⟩
          refine Ct.of (ls := [.ref 68, .int (nI 11), .int x, .int (nI dp), flr, flr, flr]) rfl (Nat.le_of_ble_eq_true rfl) rfl (fun X => ?_)
          refine r_iload_n 3 d_S_run_0 rfl rfl ?_
          refine r_bipush (20) d_S_run_1 (by decide) ?_
          refine r_icmp_gt d_S_run_3 (fun h3 => absurd h3 (nI_ge (show dp < 20 + 1 by omega) (by decide))) (fun h3 => ?_)
          refine r_aload_n 0 d_S_run_6 rfl rfl ?_
          refine r_iload_n 1 d_S_run_7 rfl rfl ?_
          refine r_callVi (c_begin _ _ _ hs hp) lk_S_397 (by first | with_reducible assumption | rfl) d_S_run_8 rfl rfl (Nat.le_of_ble_eq_true rfl) (by omega) ?_
          refine r_if_ne d_S_run_11 (fun h11 => ?_) (fun h11 => absurd h11 (by decide))
          refine r_aload_n 0 d_S_run_16 rfl rfl ?_
          refine r_getI fl_S_400 (by first | with_reducible assumption | rfl) rfl d_S_run_17 ?_
          rw [dM_lo (by decide)]
          refine r_istore 4 [_, _, _, _, _, _, _] d_S_run_20 (by decide) rfl ?_
          refine r_aload_n 0 d_S_run_22 rfl rfl ?_
          refine r_getI fl_S_403 (by first | with_reducible assumption | rfl) rfl d_S_run_23 ?_
          rw [dM_lo (by decide)]
          refine r_istore 5 [_, _, _, _, _, _, _] d_S_run_26 (by decide) rfl ?_
          refine r_iload_n 3 d_S_run_28 rfl rfl ?_
          refine r_iconst 1 d_S_run_29 rfl ?_
          refine r_iadd d_S_run_30 ?_
          rw [nI_1]
          refine r_istore 6 [_, _, _, _, _, _, _] d_S_run_31 (by decide) rfl ?_
          refine r_iload_n 1 d_S_run_33 rfl rfl ?_
          refine r_tsK 1 d_S_run_34 rfl (by decide) ?_
          refine r_aload_n 0 d_S_run_261 rfl rfl ?_
          refine r_aload_n 0 d_S_run_262 rfl rfl ?_
          refine r_iconst 0 d_S_run_263 rfl ?_
          refine r_callVi (c_bodyOf 0 k (by decide) hk _ _ hm) lk_S_375 (by first | with_reducible assumption | rfl) d_S_run_264 rfl rfl (Nat.le_of_ble_eq_true rfl) (by omega) ?_
          refine r_iload_n 2 d_S_run_267 rfl rfl ?_
          refine r_iload 6 d_S_run_268 rfl ?_
          refine r_callSi hc0.2 lk_S_378 d_S_run_270 rfl rfl (Nat.le_of_ble_eq_true rfl) (by omega) ?_
          refine r_iconst 2 d_S_run_273 rfl ?_
          refine r_imul d_S_run_274 ?_
          refine r_iret .int d_S_run_275 rfl rfl ?_
          exact ⟨rfl, rfl⟩
      · -- body 12
        cases h
        refine ⟨begD_le hs, ?_⟩
        refine Ct.of (ls := [.ref 68, .int (nI 12), .int x, .int (nI dp), flr, flr, flr]) rfl (Nat.le_of_ble_eq_true rfl) rfl (fun X => ?_)
        refine r_iload_n 3 d_S_run_0 rfl rfl ?_
        refine r_bipush (20) d_S_run_1 (by decide) ?_
        refine r_icmp_gt d_S_run_3 (fun h3 => absurd h3 (nI_ge (show dp < 20 + 1 by omega) (by decide))) (fun h3 => ?_)
        refine r_aload_n 0 d_S_run_6 rfl rfl ?_
        refine r_iload_n 1 d_S_run_7 rfl rfl ?_
        refine r_callVi (c_begin _ _ _ hs hp) lk_S_397 (by first | with_reducible assumption | rfl) d_S_run_8 rfl rfl (Nat.le_of_ble_eq_true rfl) (by omega) ?_
        refine r_if_ne d_S_run_11 (fun h11 => ?_) (fun h11 => absurd h11 (by decide))
        refine r_aload_n 0 d_S_run_16 rfl rfl ?_
        refine r_getI fl_S_400 (by first | with_reducible assumption | rfl) rfl d_S_run_17 ?_
        rw [dM_lo (by decide)]
        refine r_istore 4 [_, _, _, _, _, _, _] d_S_run_20 (by decide) rfl ?_
        refine r_aload_n 0 d_S_run_22 rfl rfl ?_
        refine r_getI fl_S_403 (by first | with_reducible assumption | rfl) rfl d_S_run_23 ?_
        rw [dM_lo (by decide)]
        refine r_istore 5 [_, _, _, _, _, _, _] d_S_run_26 (by decide) rfl ?_
        refine r_iload_n 3 d_S_run_28 rfl rfl ?_
        refine r_iconst 1 d_S_run_29 rfl ?_
        refine r_iadd d_S_run_30 ?_
        rw [nI_1]
        refine r_istore 6 [_, _, _, _, _, _, _] d_S_run_31 (by decide) rfl ?_
        refine r_iload_n 1 d_S_run_33 rfl rfl ?_
        refine r_tsK 2 d_S_run_34 rfl (by decide) ?_
        refine r_aload_n 0 d_S_run_276 rfl rfl ?_
        refine r_iload_n 2 d_S_run_277 rfl rfl ?_
        refine r_callVi (c_part _ _ _) lk_S_404 (by first | with_reducible assumption | rfl) d_S_run_278 rfl rfl (Nat.le_of_ble_eq_true rfl) (by omega) ?_
        refine r_iret .int d_S_run_281 rfl rfl ?_
        exact ⟨rfl, rfl⟩
      · -- body 13
        cases hr0 : rn k (μ.1 68 1) (μ.1 68 2) f (bd 1 k) (x) (begD s 13) with
        | none => rw [hr0] at h; cases h
        | some r0 =>
          rw [hr0, Option.bind_some] at h
          cases h
          have hc0 := ih _ _ (dp + 1) _ r0.1 r0.2 (by omega) (begD_le hs) hr0
          refine ⟨hc0.1, ?_⟩
          refine Ct.of (ls := [.ref 68, .int (nI 13), .int x, .int (nI dp), flr, flr, flr]) rfl (Nat.le_of_ble_eq_true rfl) rfl (fun X => ?_)
          refine r_iload_n 3 d_S_run_0 rfl rfl ?_
          refine r_bipush (20) d_S_run_1 (by decide) ?_
          refine r_icmp_gt d_S_run_3 (fun h3 => absurd h3 (nI_ge (show dp < 20 + 1 by omega) (by decide))) (fun h3 => ?_)
          refine r_aload_n 0 d_S_run_6 rfl rfl ?_
          refine r_iload_n 1 d_S_run_7 rfl rfl ?_
          refine r_callVi (c_begin _ _ _ hs hp) lk_S_397 (by first | with_reducible assumption | rfl) d_S_run_8 rfl rfl (Nat.le_of_ble_eq_true rfl) (by omega) ?_
          refine r_if_ne d_S_run_11 (fun h11 => ?_) (fun h11 => absurd h11 (by decide))
          refine r_aload_n 0 d_S_run_16 rfl rfl ?_
          refine r_getI fl_S_400 (by first | with_reducible assumption | rfl) rfl d_S_run_17 ?_
          rw [dM_lo (by decide)]
          refine r_istore 4 [_, _, _, _, _, _, _] d_S_run_20 (by decide) rfl ?_
          refine r_aload_n 0 d_S_run_22 rfl rfl ?_
          refine r_getI fl_S_403 (by first | with_reducible assumption | rfl) rfl d_S_run_23 ?_
          rw [dM_lo (by decide)]
          refine r_istore 5 [_, _, _, _, _, _, _] d_S_run_26 (by decide) rfl ?_
          refine r_iload_n 3 d_S_run_28 rfl rfl ?_
          refine r_iconst 1 d_S_run_29 rfl ?_
          refine r_iadd d_S_run_30 ?_
          rw [nI_1]
          refine r_istore 6 [_, _, _, _, _, _, _] d_S_run_31 (by decide) rfl ?_
          refine r_iload_n 1 d_S_run_33 rfl rfl ?_
          refine r_tsK 3 d_S_run_34 rfl (by decide) ?_
          refine r_aload_n 0 d_S_run_282 rfl rfl ?_
          refine r_aload_n 0 d_S_run_283 rfl rfl ?_
          refine r_iconst 1 d_S_run_284 rfl ?_
          refine r_callVi (c_bodyOf 1 k (by decide) hk _ _ hm) lk_S_375 (by first | with_reducible assumption | rfl) d_S_run_285 rfl rfl (Nat.le_of_ble_eq_true rfl) (by omega) ?_
          refine r_iload_n 2 d_S_run_288 rfl rfl ?_
          refine r_iload 6 d_S_run_289 rfl ?_
          refine r_callSi hc0.2 lk_S_378 d_S_run_291 rfl rfl (Nat.le_of_ble_eq_true rfl) (by omega) ?_
          refine r_iload 5 d_S_run_294 rfl ?_
          refine r_ixor d_S_run_296 ?_
          refine r_iret .int d_S_run_297 rfl rfl ?_
          exact ⟨rfl, rfl⟩
      · -- body 20
        cases hr0 : rn k (μ.1 68 1) (μ.1 68 2) f (11) (x) (begD s 20) with
        | none => rw [hr0] at h; cases h
        | some r0 =>
          rw [hr0, Option.bind_some] at h
          cases h
          have hc0 := ih _ _ (dp + 1) _ r0.1 r0.2 (by omega) (begD_le hs) hr0
          refine ⟨hc0.1, ?_⟩
          refine Ct.of (ls := [.ref 68, .int (nI 20), .int x, .int (nI dp), flr, flr, flr]) rfl (Nat.le_of_ble_eq_true rfl) rfl (fun X => ?_)
          refine r_iload_n 3 d_S_run_0 rfl rfl ?_
          refine r_bipush (20) d_S_run_1 (by decide) ?_
          refine r_icmp_gt d_S_run_3 (fun h3 => absurd h3 (nI_ge (show dp < 20 + 1 by omega) (by decide))) (fun h3 => ?_)
          refine r_aload_n 0 d_S_run_6 rfl rfl ?_
          refine r_iload_n 1 d_S_run_7 rfl rfl ?_
          refine r_callVi (c_begin _ _ _ hs hp) lk_S_397 (by first | with_reducible assumption | rfl) d_S_run_8 rfl rfl (Nat.le_of_ble_eq_true rfl) (by omega) ?_
          refine r_if_ne d_S_run_11 (fun h11 => ?_) (fun h11 => absurd h11 (by decide))
          refine r_aload_n 0 d_S_run_16 rfl rfl ?_
          refine r_getI fl_S_400 (by first | with_reducible assumption | rfl) rfl d_S_run_17 ?_
          rw [dM_lo (by decide)]
          refine r_istore 4 [_, _, _, _, _, _, _] d_S_run_20 (by decide) rfl ?_
          refine r_aload_n 0 d_S_run_22 rfl rfl ?_
          refine r_getI fl_S_403 (by first | with_reducible assumption | rfl) rfl d_S_run_23 ?_
          rw [dM_lo (by decide)]
          refine r_istore 5 [_, _, _, _, _, _, _] d_S_run_26 (by decide) rfl ?_
          refine r_iload_n 3 d_S_run_28 rfl rfl ?_
          refine r_iconst 1 d_S_run_29 rfl ?_
          refine r_iadd d_S_run_30 ?_
          rw [nI_1]
          refine r_istore 6 [_, _, _, _, _, _, _] d_S_run_31 (by decide) rfl ?_
          refine r_iload_n 1 d_S_run_33 rfl rfl ?_
          refine r_tsK 10 d_S_run_34 rfl (by decide) ?_
          refine r_aload_n 0 d_S_run_298 rfl rfl ?_
          refine r_bipush (11) d_S_run_299 (by decide) ?_
          refine r_iload_n 2 d_S_run_301 rfl rfl ?_
          refine r_iload 6 d_S_run_302 rfl ?_
          refine r_callSi hc0.2 lk_S_378 d_S_run_304 rfl rfl (Nat.le_of_ble_eq_true rfl) (by omega) ?_
          refine r_iload 5 d_S_run_307 rfl ?_
          refine r_isub d_S_run_309 ?_
          refine r_iret .int d_S_run_310 rfl rfl ?_
          exact ⟨rfl, rfl⟩
      · -- body 30
        cases hr0 : rn k (μ.1 68 1) (μ.1 68 2) f (10) (x) (begD s 30) with
        | none => rw [hr0] at h; cases h
        | some r0 =>
          rw [hr0, Option.bind_some] at h
          cases h
          have hc0 := ih _ _ (dp + 1) _ r0.1 r0.2 (by omega) (begD_le hs) hr0
          refine ⟨hc0.1, ?_⟩
          refine Ct.of (ls := [.ref 68, .int (nI 30), .int x, .int (nI dp), flr, flr, flr]) rfl (Nat.le_of_ble_eq_true rfl) rfl (fun X => ?_)
          refine r_iload_n 3 d_S_run_0 rfl rfl ?_
          refine r_bipush (20) d_S_run_1 (by decide) ?_
          refine r_icmp_gt d_S_run_3 (fun h3 => absurd h3 (nI_ge (show dp < 20 + 1 by omega) (by decide))) (fun h3 => ?_)
          refine r_aload_n 0 d_S_run_6 rfl rfl ?_
          refine r_iload_n 1 d_S_run_7 rfl rfl ?_
          refine r_callVi (c_begin _ _ _ hs hp) lk_S_397 (by first | with_reducible assumption | rfl) d_S_run_8 rfl rfl (Nat.le_of_ble_eq_true rfl) (by omega) ?_
          refine r_if_ne d_S_run_11 (fun h11 => ?_) (fun h11 => absurd h11 (by decide))
          refine r_aload_n 0 d_S_run_16 rfl rfl ?_
          refine r_getI fl_S_400 (by first | with_reducible assumption | rfl) rfl d_S_run_17 ?_
          rw [dM_lo (by decide)]
          refine r_istore 4 [_, _, _, _, _, _, _] d_S_run_20 (by decide) rfl ?_
          refine r_aload_n 0 d_S_run_22 rfl rfl ?_
          refine r_getI fl_S_403 (by first | with_reducible assumption | rfl) rfl d_S_run_23 ?_
          rw [dM_lo (by decide)]
          refine r_istore 5 [_, _, _, _, _, _, _] d_S_run_26 (by decide) rfl ?_
          refine r_iload_n 3 d_S_run_28 rfl rfl ?_
          refine r_iconst 1 d_S_run_29 rfl ?_
          refine r_iadd d_S_run_30 ?_
          rw [nI_1]
          refine r_istore 6 [_, _, _, _, _, _, _] d_S_run_31 (by decide) rfl ?_
          refine r_iload_n 1 d_S_run_33 rfl rfl ?_
          refine r_tsK 20 d_S_run_34 rfl (by decide) ?_
          refine r_aload_n 0 d_S_run_311 rfl rfl ?_
          refine r_bipush (10) d_S_run_312 (by decide) ?_
          refine r_iload_n 2 d_S_run_314 rfl rfl ?_
          refine r_iload 6 d_S_run_315 rfl ?_
          refine r_callSi hc0.2 lk_S_378 d_S_run_317 rfl rfl (Nat.le_of_ble_eq_true rfl) (by omega) ?_
          refine r_iconst 3 d_S_run_320 rfl ?_
          refine r_imul d_S_run_321 ?_
          refine r_iret .int d_S_run_322 rfl rfl ?_
          exact ⟨rfl, rfl⟩
      · -- body 31
        cases hr0 : rn k (μ.1 68 1) (μ.1 68 2) f (13) (x) (begD s 31) with
        | none => rw [hr0] at h; cases h
        | some r0 =>
          rw [hr0, Option.bind_some] at h
          cases hr1 : rn k (μ.1 68 1) (μ.1 68 2) f (bd 2 k) (μ.1 68 1) r0.2 with
          | none => rw [hr1] at h; cases h
          | some r1 =>
            rw [hr1, Option.bind_some] at h
            cases h
            have hc0 := ih _ _ (dp + 1) _ r0.1 r0.2 (by omega) (begD_le hs) hr0
            have hc1 := ih _ _ (dp + 1) _ r1.1 r1.2 (by omega) hc0.1 hr1
            refine ⟨hc1.1, ?_⟩
            refine Ct.of (ls := [.ref 68, .int (nI 31), .int x, .int (nI dp), flr, flr, flr]) rfl (Nat.le_of_ble_eq_true rfl) rfl (fun X => ?_)
            refine r_iload_n 3 d_S_run_0 rfl rfl ?_
            refine r_bipush (20) d_S_run_1 (by decide) ?_
            refine r_icmp_gt d_S_run_3 (fun h3 => absurd h3 (nI_ge (show dp < 20 + 1 by omega) (by decide))) (fun h3 => ?_)
            refine r_aload_n 0 d_S_run_6 rfl rfl ?_
            refine r_iload_n 1 d_S_run_7 rfl rfl ?_
            refine r_callVi (c_begin _ _ _ hs hp) lk_S_397 (by first | with_reducible assumption | rfl) d_S_run_8 rfl rfl (Nat.le_of_ble_eq_true rfl) (by omega) ?_
            refine r_if_ne d_S_run_11 (fun h11 => ?_) (fun h11 => absurd h11 (by decide))
            refine r_aload_n 0 d_S_run_16 rfl rfl ?_
            refine r_getI fl_S_400 (by first | with_reducible assumption | rfl) rfl d_S_run_17 ?_
            rw [dM_lo (by decide)]
            refine r_istore 4 [_, _, _, _, _, _, _] d_S_run_20 (by decide) rfl ?_
            refine r_aload_n 0 d_S_run_22 rfl rfl ?_
            refine r_getI fl_S_403 (by first | with_reducible assumption | rfl) rfl d_S_run_23 ?_
            rw [dM_lo (by decide)]
            refine r_istore 5 [_, _, _, _, _, _, _] d_S_run_26 (by decide) rfl ?_
            refine r_iload_n 3 d_S_run_28 rfl rfl ?_
            refine r_iconst 1 d_S_run_29 rfl ?_
            refine r_iadd d_S_run_30 ?_
            rw [nI_1]
            refine r_istore 6 [_, _, _, _, _, _, _] d_S_run_31 (by decide) rfl ?_
            refine r_iload_n 1 d_S_run_33 rfl rfl ?_
            refine r_tsK 21 d_S_run_34 rfl (by decide) ?_
            refine r_aload_n 0 d_S_run_323 rfl rfl ?_
            refine r_bipush (13) d_S_run_324 (by decide) ?_
            refine r_iload_n 2 d_S_run_326 rfl rfl ?_
            refine r_iload 6 d_S_run_327 rfl ?_
            refine r_callSi hc0.2 lk_S_378 d_S_run_329 rfl rfl (Nat.le_of_ble_eq_true rfl) (by omega) ?_
            refine r_aload_n 0 d_S_run_332 rfl rfl ?_
            refine r_aload_n 0 d_S_run_333 rfl rfl ?_
            refine r_iconst 2 d_S_run_334 rfl ?_
            refine r_callVi (c_bodyOf 2 k (by decide) hk _ _ hm) lk_S_375 (by first | with_reducible assumption | rfl) d_S_run_335 rfl rfl (Nat.le_of_ble_eq_true rfl) (by omega) ?_
            refine r_iload 4 d_S_run_338 rfl ?_
            refine r_iload 6 d_S_run_340 rfl ?_
            refine r_callSi hc1.2 lk_S_378 d_S_run_342 rfl rfl (Nat.le_of_ble_eq_true rfl) (by omega) ?_
            refine r_iadd d_S_run_345 ?_
            refine r_iret .int d_S_run_346 rfl rfl ?_
            exact ⟨rfl, rfl⟩
      · -- body 40
        cases hr0 : rn k (μ.1 68 1) (μ.1 68 2) f (30) (x) (begD s 40) with
        | none => rw [hr0] at h; cases h
        | some r0 =>
          rw [hr0, Option.bind_some] at h
          cases h
          have hc0 := ih _ _ (dp + 1) _ r0.1 r0.2 (by omega) (begD_le hs) hr0
          refine ⟨hc0.1, ?_⟩
          refine Ct.of (ls := [.ref 68, .int (nI 40), .int x, .int (nI dp), flr, flr, flr]) rfl (Nat.le_of_ble_eq_true rfl) rfl (fun X => ?_)
          refine r_iload_n 3 d_S_run_0 rfl rfl ?_
          refine r_bipush (20) d_S_run_1 (by decide) ?_
          refine r_icmp_gt d_S_run_3 (fun h3 => absurd h3 (nI_ge (show dp < 20 + 1 by omega) (by decide))) (fun h3 => ?_)
          refine r_aload_n 0 d_S_run_6 rfl rfl ?_
          refine r_iload_n 1 d_S_run_7 rfl rfl ?_
          refine r_callVi (c_begin _ _ _ hs hp) lk_S_397 (by first | with_reducible assumption | rfl) d_S_run_8 rfl rfl (Nat.le_of_ble_eq_true rfl) (by omega) ?_
          refine r_if_ne d_S_run_11 (fun h11 => ?_) (fun h11 => absurd h11 (by decide))
          refine r_aload_n 0 d_S_run_16 rfl rfl ?_
          refine r_getI fl_S_400 (by first | with_reducible assumption | rfl) rfl d_S_run_17 ?_
          rw [dM_lo (by decide)]
          refine r_istore 4 [_, _, _, _, _, _, _] d_S_run_20 (by decide) rfl ?_
          refine r_aload_n 0 d_S_run_22 rfl rfl ?_
          refine r_getI fl_S_403 (by first | with_reducible assumption | rfl) rfl d_S_run_23 ?_
          rw [dM_lo (by decide)]
          refine r_istore 5 [_, _, _, _, _, _, _] d_S_run_26 (by decide) rfl ?_
          refine r_iload_n 3 d_S_run_28 rfl rfl ?_
          refine r_iconst 1 d_S_run_29 rfl ?_
          refine r_iadd d_S_run_30 ?_
          rw [nI_1]
          refine r_istore 6 [_, _, _, _, _, _, _] d_S_run_31 (by decide) rfl ?_
          refine r_iload_n 1 d_S_run_33 rfl rfl ?_
          refine r_tsK 30 d_S_run_34 rfl (by decide) ?_
          refine r_iconst 0 d_S_run_347 rfl ?_
          refine r_aload_n 0 d_S_run_348 rfl rfl ?_
          refine r_bipush (30) d_S_run_349 (by decide) ?_
          refine r_iload_n 2 d_S_run_351 rfl rfl ?_
          refine r_iload 6 d_S_run_352 rfl ?_
          refine r_callSi hc0.2 lk_S_378 d_S_run_354 rfl rfl (Nat.le_of_ble_eq_true rfl) (by omega) ?_
          refine r_isub d_S_run_357 ?_
          refine r_iret .int d_S_run_358 rfl rfl ?_
          exact ⟨rfl, rfl⟩
      · -- body 41
        cases hr0 : rn k (μ.1 68 1) (μ.1 68 2) f (11) (x) (begD s 41) with
        | none => rw [hr0] at h; cases h
        | some r0 =>
          rw [hr0, Option.bind_some] at h
          cases hr1 : rn k (μ.1 68 1) (μ.1 68 2) f (bd 0 k) (μ.1 68 1) r0.2 with
          | none => rw [hr1] at h; cases h
          | some r1 =>
            rw [hr1, Option.bind_some] at h
            cases h
            have hc0 := ih _ _ (dp + 1) _ r0.1 r0.2 (by omega) (begD_le hs) hr0
            have hc1 := ih _ _ (dp + 1) _ r1.1 r1.2 (by omega) hc0.1 hr1
            refine ⟨hc1.1, ?_⟩
            refine Ct.of (ls := [.ref 68, .int (nI 41), .int x, .int (nI dp), flr, flr, flr]) rfl (Nat.le_of_ble_eq_true rfl) rfl (fun X => ?_)
            refine r_iload_n 3 d_S_run_0 rfl rfl ?_
            refine r_bipush (20) d_S_run_1 (by decide) ?_
            refine r_icmp_gt d_S_run_3 (fun h3 => absurd h3 (nI_ge (show dp < 20 + 1 by omega) (by decide))) (fun h3 => ?_)
            refine r_aload_n 0 d_S_run_6 rfl rfl ?_
            refine r_iload_n 1 d_S_run_7 rfl rfl ?_
            refine r_callVi (c_begin _ _ _ hs hp) lk_S_397 (by first | with_reducible assumption | rfl) d_S_run_8 rfl rfl (Nat.le_of_ble_eq_true rfl) (by omega) ?_
            refine r_if_ne d_S_run_11 (fun h11 => ?_) (fun h11 => absurd h11 (by decide))
            refine r_aload_n 0 d_S_run_16 rfl rfl ?_
            refine r_getI fl_S_400 (by first | with_reducible assumption | rfl) rfl d_S_run_17 ?_
            rw [dM_lo (by decide)]
            refine r_istore 4 [_, _, _, _, _, _, _] d_S_run_20 (by decide) rfl ?_
            refine r_aload_n 0 d_S_run_22 rfl rfl ?_
            refine r_getI fl_S_403 (by first | with_reducible assumption | rfl) rfl d_S_run_23 ?_
            rw [dM_lo (by decide)]
            refine r_istore 5 [_, _, _, _, _, _, _] d_S_run_26 (by decide) rfl ?_
            refine r_iload_n 3 d_S_run_28 rfl rfl ?_
            refine r_iconst 1 d_S_run_29 rfl ?_
            refine r_iadd d_S_run_30 ?_
            rw [nI_1]
            refine r_istore 6 [_, _, _, _, _, _, _] d_S_run_31 (by decide) rfl ?_
            refine r_iload_n 1 d_S_run_33 rfl rfl ?_
            refine r_tsK 31 d_S_run_34 rfl (by decide) ?_
            refine r_aload_n 0 d_S_run_359 rfl rfl ?_
            refine r_bipush (11) d_S_run_360 (by decide) ?_
            refine r_iload_n 2 d_S_run_362 rfl rfl ?_
            refine r_iload 6 d_S_run_363 rfl ?_
            refine r_callSi hc0.2 lk_S_378 d_S_run_365 rfl rfl (Nat.le_of_ble_eq_true rfl) (by omega) ?_
            refine r_aload_n 0 d_S_run_368 rfl rfl ?_
            refine r_aload_n 0 d_S_run_369 rfl rfl ?_
            refine r_iconst 0 d_S_run_370 rfl ?_
            refine r_callVi (c_bodyOf 0 k (by decide) hk _ _ hm) lk_S_375 (by first | with_reducible assumption | rfl) d_S_run_371 rfl rfl (Nat.le_of_ble_eq_true rfl) (by omega) ?_
            refine r_iload 4 d_S_run_374 rfl ?_
            refine r_iload 6 d_S_run_376 rfl ?_
            refine r_callSi hc1.2 lk_S_378 d_S_run_378 rfl rfl (Nat.le_of_ble_eq_true rfl) (by omega) ?_
            refine r_iadd d_S_run_381 ?_
            refine r_iret .int d_S_run_382 rfl rfl ?_
            exact ⟨rfl, rfl⟩
      · -- body 50
        cases hr0 : rn k (μ.1 68 1) (μ.1 68 2) f (12) (x + 2) (begD s 50) with
        | none => rw [hr0] at h; cases h
        | some r0 =>
          rw [hr0, Option.bind_some] at h
          cases h
          have hc0 := ih _ _ (dp + 1) _ r0.1 r0.2 (by omega) (begD_le hs) hr0
          refine ⟨hc0.1, ?_⟩
          refine Ct.of (ls := [.ref 68, .int (nI 50), .int x, .int (nI dp), flr, flr, flr]) rfl (Nat.le_of_ble_eq_true rfl) rfl (fun X => ?_)
          refine r_iload_n 3 d_S_run_0 rfl rfl ?_
          refine r_bipush (20) d_S_run_1 (by decide) ?_
          refine r_icmp_gt d_S_run_3 (fun h3 => absurd h3 (nI_ge (show dp < 20 + 1 by omega) (by decide))) (fun h3 => ?_)
          refine r_aload_n 0 d_S_run_6 rfl rfl ?_
          refine r_iload_n 1 d_S_run_7 rfl rfl ?_
          refine r_callVi (c_begin _ _ _ hs hp) lk_S_397 (by first | with_reducible assumption | rfl) d_S_run_8 rfl rfl (Nat.le_of_ble_eq_true rfl) (by omega) ?_
          refine r_if_ne d_S_run_11 (fun h11 => ?_) (fun h11 => absurd h11 (by decide))
          refine r_aload_n 0 d_S_run_16 rfl rfl ?_
          refine r_getI fl_S_400 (by first | with_reducible assumption | rfl) rfl d_S_run_17 ?_
          rw [dM_lo (by decide)]
          refine r_istore 4 [_, _, _, _, _, _, _] d_S_run_20 (by decide) rfl ?_
          refine r_aload_n 0 d_S_run_22 rfl rfl ?_
          refine r_getI fl_S_403 (by first | with_reducible assumption | rfl) rfl d_S_run_23 ?_
          rw [dM_lo (by decide)]
          refine r_istore 5 [_, _, _, _, _, _, _] d_S_run_26 (by decide) rfl ?_
          refine r_iload_n 3 d_S_run_28 rfl rfl ?_
          refine r_iconst 1 d_S_run_29 rfl ?_
          refine r_iadd d_S_run_30 ?_
          rw [nI_1]
          refine r_istore 6 [_, _, _, _, _, _, _] d_S_run_31 (by decide) rfl ?_
          refine r_iload_n 1 d_S_run_33 rfl rfl ?_
          refine r_tsK 40 d_S_run_34 rfl (by decide) ?_
          refine r_aload_n 0 d_S_run_383 rfl rfl ?_
          refine r_bipush (12) d_S_run_384 (by decide) ?_
          refine r_iload_n 2 d_S_run_386 rfl rfl ?_
          refine r_iconst 2 d_S_run_387 rfl ?_
          refine r_iadd d_S_run_388 ?_
          refine r_iload 6 d_S_run_389 rfl ?_
          refine r_callSi hc0.2 lk_S_378 d_S_run_391 rfl rfl (Nat.le_of_ble_eq_true rfl) (by omega) ?_
          refine r_iconst 1 d_S_run_394 rfl ?_
          refine r_ixor d_S_run_395 ?_
          refine r_iret .int d_S_run_396 rfl rfl ?_
          exact ⟨rfl, rfl⟩
      · -- body 51
        cases hr0 : rn k (μ.1 68 1) (μ.1 68 2) f (10) (x) (begD s 51) with
        | none => rw [hr0] at h; cases h
        | some r0 =>
          rw [hr0, Option.bind_some] at h
          cases h
          have hc0 := ih _ _ (dp + 1) _ r0.1 r0.2 (by omega) (begD_le hs) hr0
          refine ⟨hc0.1, ?_⟩
          refine Ct.of (ls := [.ref 68, .int (nI 51), .int x, .int (nI dp), flr, flr, flr]) rfl (Nat.le_of_ble_eq_true rfl) rfl (fun X => ?_)
          refine r_iload_n 3 d_S_run_0 rfl rfl ?_
          refine r_bipush (20) d_S_run_1 (by decide) ?_
          refine r_icmp_gt d_S_run_3 (fun h3 => absurd h3 (nI_ge (show dp < 20 + 1 by omega) (by decide))) (fun h3 => ?_)
          refine r_aload_n 0 d_S_run_6 rfl rfl ?_
          refine r_iload_n 1 d_S_run_7 rfl rfl ?_
          refine r_callVi (c_begin _ _ _ hs hp) lk_S_397 (by first | with_reducible assumption | rfl) d_S_run_8 rfl rfl (Nat.le_of_ble_eq_true rfl) (by omega) ?_
          refine r_if_ne d_S_run_11 (fun h11 => ?_) (fun h11 => absurd h11 (by decide))
          refine r_aload_n 0 d_S_run_16 rfl rfl ?_
          refine r_getI fl_S_400 (by first | with_reducible assumption | rfl) rfl d_S_run_17 ?_
          rw [dM_lo (by decide)]
          refine r_istore 4 [_, _, _, _, _, _, _] d_S_run_20 (by decide) rfl ?_
          refine r_aload_n 0 d_S_run_22 rfl rfl ?_
          refine r_getI fl_S_403 (by first | with_reducible assumption | rfl) rfl d_S_run_23 ?_
          rw [dM_lo (by decide)]
          refine r_istore 5 [_, _, _, _, _, _, _] d_S_run_26 (by decide) rfl ?_
          refine r_iload_n 3 d_S_run_28 rfl rfl ?_
          refine r_iconst 1 d_S_run_29 rfl ?_
          refine r_iadd d_S_run_30 ?_
          rw [nI_1]
          refine r_istore 6 [_, _, _, _, _, _, _] d_S_run_31 (by decide) rfl ?_
          refine r_iload_n 1 d_S_run_33 rfl rfl ?_
          refine r_tsK 41 d_S_run_34 rfl (by decide) ?_
          refine r_aload_n 0 d_S_run_397 rfl rfl ?_
          refine r_bipush (10) d_S_run_398 (by decide) ?_
          refine r_iload_n 2 d_S_run_400 rfl rfl ?_
          refine r_iload 6 d_S_run_401 rfl ?_
          refine r_callSi hc0.2 lk_S_378 d_S_run_403 rfl rfl (Nat.le_of_ble_eq_true rfl) (by omega) ?_
          refine r_iload 4 d_S_run_406 rfl ?_
          refine r_isub d_S_run_408 ?_
          refine r_iret .int d_S_run_409 rfl rfl ?_
          exact ⟨rfl, rfl⟩
      · -- body 60
        cases hr0 : rn k (μ.1 68 1) (μ.1 68 2) f (13) (x) (begD s 60) with
        | none => rw [hr0] at h; cases h
        | some r0 =>
          rw [hr0, Option.bind_some] at h
          cases h
          have hc0 := ih _ _ (dp + 1) _ r0.1 r0.2 (by omega) (begD_le hs) hr0
          refine ⟨hc0.1, ?_⟩
          refine Ct.of (ls := [.ref 68, .int (nI 60), .int x, .int (nI dp), flr, flr, flr]) rfl (Nat.le_of_ble_eq_true rfl) rfl (fun X => ?_)
          refine r_iload_n 3 d_S_run_0 rfl rfl ?_
          refine r_bipush (20) d_S_run_1 (by decide) ?_
          refine r_icmp_gt d_S_run_3 (fun h3 => absurd h3 (nI_ge (show dp < 20 + 1 by omega) (by decide))) (fun h3 => ?_)
          refine r_aload_n 0 d_S_run_6 rfl rfl ?_
          refine r_iload_n 1 d_S_run_7 rfl rfl ?_
          refine r_callVi (c_begin _ _ _ hs hp) lk_S_397 (by first | with_reducible assumption | rfl) d_S_run_8 rfl rfl (Nat.le_of_ble_eq_true rfl) (by omega) ?_
          refine r_if_ne d_S_run_11 (fun h11 => ?_) (fun h11 => absurd h11 (by decide))
          refine r_aload_n 0 d_S_run_16 rfl rfl ?_
          refine r_getI fl_S_400 (by first | with_reducible assumption | rfl) rfl d_S_run_17 ?_
          rw [dM_lo (by decide)]
          refine r_istore 4 [_, _, _, _, _, _, _] d_S_run_20 (by decide) rfl ?_
          refine r_aload_n 0 d_S_run_22 rfl rfl ?_
          refine r_getI fl_S_403 (by first | with_reducible assumption | rfl) rfl d_S_run_23 ?_
          rw [dM_lo (by decide)]
          refine r_istore 5 [_, _, _, _, _, _, _] d_S_run_26 (by decide) rfl ?_
          refine r_iload_n 3 d_S_run_28 rfl rfl ?_
          refine r_iconst 1 d_S_run_29 rfl ?_
          refine r_iadd d_S_run_30 ?_
          rw [nI_1]
          refine r_istore 6 [_, _, _, _, _, _, _] d_S_run_31 (by decide) rfl ?_
          refine r_iload_n 1 d_S_run_33 rfl rfl ?_
          refine r_tsK 50 d_S_run_34 rfl (by decide) ?_
          refine r_aload_n 0 d_S_run_410 rfl rfl ?_
          refine r_bipush (13) d_S_run_411 (by decide) ?_
          refine r_iload_n 2 d_S_run_413 rfl rfl ?_
          refine r_iload 6 d_S_run_414 rfl ?_
          refine r_callSi hc0.2 lk_S_378 d_S_run_416 rfl rfl (Nat.le_of_ble_eq_true rfl) (by omega) ?_
          refine r_iconst 2 d_S_run_419 rfl ?_
          refine r_imul d_S_run_420 ?_
          refine r_iret .int d_S_run_421 rfl rfl ?_
          exact ⟨rfl, rfl⟩
      · -- body 61
        cases hr0 : rn k (μ.1 68 1) (μ.1 68 2) f (12) (x) (begD s 61) with
        | none => rw [hr0] at h; cases h
        | some r0 =>
          rw [hr0, Option.bind_some] at h
          cases hr1 : rn k (μ.1 68 1) (μ.1 68 2) f (bd 0 k) (μ.1 68 2) r0.2 with
          | none => rw [hr1] at h; cases h
          | some r1 =>
            rw [hr1, Option.bind_some] at h
            cases h
            have hc0 := ih _ _ (dp + 1) _ r0.1 r0.2 (by omega) (begD_le hs) hr0
            have hc1 := ih _ _ (dp + 1) _ r1.1 r1.2 (by omega) hc0.1 hr1
            refine ⟨hc1.1, ?_⟩
            refine Ct.of (ls := [.ref 68, .int (nI 61), .int x, .int (nI dp), flr, flr, flr]) rfl (Nat.le_of_ble_eq_true rfl) rfl (fun X => ?_)
            refine r_iload_n 3 d_S_run_0 rfl rfl ?_
            refine r_bipush (20) d_S_run_1 (by decide) ?_
            refine r_icmp_gt d_S_run_3 (fun h3 => absurd h3 (nI_ge (show dp < 20 + 1 by omega) (by decide))) (fun h3 => ?_)
            refine r_aload_n 0 d_S_run_6 rfl rfl ?_
            refine r_iload_n 1 d_S_run_7 rfl rfl ?_
            refine r_callVi (c_begin _ _ _ hs hp) lk_S_397 (by first | with_reducible assumption | rfl) d_S_run_8 rfl rfl (Nat.le_of_ble_eq_true rfl) (by omega) ?_
            refine r_if_ne d_S_run_11 (fun h11 => ?_) (fun h11 => absurd h11 (by decide))
            refine r_aload_n 0 d_S_run_16 rfl rfl ?_
            refine r_getI fl_S_400 (by first | with_reducible assumption | rfl) rfl d_S_run_17 ?_
            rw [dM_lo (by decide)]
            refine r_istore 4 [_, _, _, _, _, _, _] d_S_run_20 (by decide) rfl ?_
            refine r_aload_n 0 d_S_run_22 rfl rfl ?_
            refine r_getI fl_S_403 (by first | with_reducible assumption | rfl) rfl d_S_run_23 ?_
            rw [dM_lo (by decide)]
            refine r_istore 5 [_, _, _, _, _, _, _] d_S_run_26 (by decide) rfl ?_
            refine r_iload_n 3 d_S_run_28 rfl rfl ?_
            refine r_iconst 1 d_S_run_29 rfl ?_
            refine r_iadd d_S_run_30 ?_
            rw [nI_1]
            refine r_istore 6 [_, _, _, _, _, _, _] d_S_run_31 (by decide) rfl ?_
            refine r_iload_n 1 d_S_run_33 rfl rfl ?_
            refine r_tsK 51 d_S_run_34 rfl (by decide) ?_
            refine r_aload_n 0 d_S_run_422 rfl rfl ?_
            refine r_bipush (12) d_S_run_423 (by decide) ?_
            refine r_iload_n 2 d_S_run_425 rfl rfl ?_
            refine r_iload 6 d_S_run_426 rfl ?_
            refine r_callSi hc0.2 lk_S_378 d_S_run_428 rfl rfl (Nat.le_of_ble_eq_true rfl) (by omega) ?_
            refine r_aload_n 0 d_S_run_431 rfl rfl ?_
            refine r_aload_n 0 d_S_run_432 rfl rfl ?_
            refine r_iconst 0 d_S_run_433 rfl ?_
            refine r_callVi (c_bodyOf 0 k (by decide) hk _ _ hm) lk_S_375 (by first | with_reducible assumption | rfl) d_S_run_434 rfl rfl (Nat.le_of_ble_eq_true rfl) (by omega) ?_
            refine r_iload 5 d_S_run_437 rfl ?_
            refine r_iload 6 d_S_run_439 rfl ?_
            refine r_callSi hc1.2 lk_S_378 d_S_run_441 rfl rfl (Nat.le_of_ble_eq_true rfl) (by omega) ?_
            refine r_iadd d_S_run_444 ?_
            refine r_iret .int d_S_run_445 rfl rfl ?_
            exact ⟨rfl, rfl⟩
      · cases h

-- what an ACT answers, and the thing behind it
set_option maxHeartbeats 400000 in
theorem c_S_act_bad {s w : Int32} (x : Int32) (hP : ¬ ((0 ≤ s ∧ s < 4) ∧ 0 ≤ w ∧ w ≤ 3)) (μ : Me) : CtI m_S_act 9 [.ref 0, .int s, .int w, .int x] μ 0 (uI (uI μ 68 5 0) 68 3 0) := by
  refine Ct.of (ls := [.ref 0, .int s, .int w, .int x, flr, flr, flr]) rfl (Nat.le_of_ble_eq_true rfl) rfl (fun X => ?_)
  refine r_aload_n 0 d_S_act_0 rfl rfl ?_
  refine r_getR fl_S_87 (by first | with_reducible assumption | rfl) rfl d_S_act_1 ?_
  refine r_callVv (c_Doer_clear _) lk_S_369 (by first | with_reducible assumption | rfl) d_S_act_4 rfl rfl (Nat.le_of_ble_eq_true rfl) (by decide) ?_
  refine r_iload_n 1 d_S_act_7 rfl rfl ?_
  refine r_callSi (c_S_isShelf _ _) lk_S_345 d_S_act_8 rfl rfl (Nat.le_of_ble_eq_true rfl) (by decide) ?_
  refine r_if_eq d_S_act_11 (fun h11 => ?_) (fun h11 => ?_)
  · refine r_iconst 0 d_S_act_22 rfl ?_
    refine r_iret .int d_S_act_23 rfl rfl ?_
    exact ⟨rfl, rfl⟩
  · refine r_iload_n 2 d_S_act_14 rfl rfl ?_
    refine r_iconst 3 d_S_act_15 rfl ?_
    refine r_callSi (c_S_isWithin _ _ _) lk_S_118 d_S_act_16 rfl rfl (Nat.le_of_ble_eq_true rfl) (by decide) ?_
    refine r_if_ne d_S_act_19 (fun h19 => absurd (bz_0.mpr (fun z => hP ⟨bz_p h11, z⟩)) h19) (fun h19 => ?_)
    refine r_iconst 0 d_S_act_22 rfl ?_
    refine r_iret .int d_S_act_23 rfl rfl ?_
    exact ⟨rfl, rfl⟩
set_option maxHeartbeats 400000 in
theorem c_S_act_none {j m : Nat} (hj : j < 4) (w x : Int32) (hw : 0 ≤ w ∧ w ≤ 3) (μ : Me) (hct : μ.1 1 1 = nI m) (hl : ¬ (0 ≤ μ.1 (78 + 1 * j) 0 ∧ μ.1 (78 + 1 * j) 0 < nI m)) : CtI m_S_act 9 [.ref 0, .int (nI j), .int w, .int x] μ 0 (uI (uI μ 68 5 0) 68 3 0) := by
  refine Ct.of (ls := [.ref 0, .int (nI j), .int w, .int x, flr, flr, flr]) rfl (Nat.le_of_ble_eq_true rfl) rfl (fun X => ?_)
  have s0 : shp[78 + 1 * j]? = some (.inl (8, [0, 0, 0])) := isSf_s j hj
  have hno := lr_no hl
  rw [← hct] at hno
  refine r_aload_n 0 d_S_act_0 rfl rfl ?_
  refine r_getR fl_S_87 (by first | with_reducible assumption | rfl) rfl d_S_act_1 ?_
  refine r_callVv (c_Doer_clear _) lk_S_369 (by first | with_reducible assumption | rfl) d_S_act_4 rfl rfl (Nat.le_of_ble_eq_true rfl) (by decide) ?_
  refine r_iload_n 1 d_S_act_7 rfl rfl ?_
  refine r_callSi (c_S_isShelf _ _) lk_S_345 d_S_act_8 rfl rfl (Nat.le_of_ble_eq_true rfl) (by decide) ?_
  refine r_if_eq d_S_act_11 (fun h11 => absurd h11 (fun z => bz_np z (f4_yes hj))) (fun h11 => ?_)
  refine r_iload_n 2 d_S_act_14 rfl rfl ?_
  refine r_iconst 3 d_S_act_15 rfl ?_
  refine r_callSi (c_S_isWithin _ _ _) lk_S_118 d_S_act_16 rfl rfl (Nat.le_of_ble_eq_true rfl) (by decide) ?_
  refine r_if_ne d_S_act_19 (fun h19 => ?_) (fun h19 => absurd h19 (fun z => bz_np z hw))
  refine r_aload_n 0 d_S_act_24 rfl rfl ?_
  refine r_getR fl_S_80 (by first | with_reducible assumption | rfl) rfl d_S_act_25 ?_
  refine r_iload_n 1 d_S_act_28 rfl rfl ?_
  refine r_aald5N (by first | with_reducible assumption | rfl) (by decide) (by first | with_reducible assumption | omega | decide | assumption) d_S_act_29 ?_
  refine r_astore 4 [_, _, _, _, _, _, _] d_S_act_30 (by decide) rfl ?_
  refine r_aload_n 0 d_S_act_32 rfl rfl ?_
  refine r_getR fl_S_12 (by first | with_reducible assumption | rfl) rfl d_S_act_33 ?_
  refine r_aload 4 d_S_act_36 rfl ?_
  refine r_getI fl_S_363 (by first | with_reducible assumption | rfl) rfl d_S_act_38 ?_
  rw [uI_ne (by omega), uI_ne (by omega)]
  refine r_callVa (c_School_learnerAt_no _ _ (by rw [uI_ne (by decide), uI_ne (by decide)]; exact hno)) lk_S_127 (by first | with_reducible assumption | rfl) d_S_act_41 rfl rfl (Nat.le_of_ble_eq_true rfl) (by decide) ?_
  refine r_astoreN 5 [_, _, _, _, _, _, _] d_S_act_44 (by decide) rfl ?_
  refine r_aloadN 5 d_S_act_46 rfl ?_
  refine r_ifnonnullN d_S_act_48 ?_
  refine r_iconst 0 d_S_act_51 rfl ?_
  refine r_iret .int d_S_act_52 rfl rfl ?_
  exact ⟨rfl, rfl⟩
/-- the thing as an ACT begins -/
def actD (μ : Me) (k n a : Int32) : Me := uI (uI (uI μ 68 0 k) 68 1 n) 68 2 a
def act0 (μ : Me) : DS := (false, 0, μ.1 69)
theorem act_dM {μ : Me} {k n a : Int32} : uI (uI (uI (uI (uI μ 68 5 0) 68 3 0) 68 0 k) 68 1 n) 68 2 a = dM (actD μ k n a) (act0 μ) := by
  refine Me_ext (fun c' j' => ?_) (fun _ _ => rfl)
  by_cases h1 : c' = 68
  · subst h1
    by_cases h5 : j' = 5
    · subst h5; rw [uI_off (by decide), uI_off (by decide), uI_off (by decide), uI_off (by decide), uI_at, dM_5]; rfl
    · by_cases h3 : j' = 3
      · subst h3; rw [uI_off (by decide), uI_off (by decide), uI_off (by decide), uI_at, dM_3]; rfl
      · have e9 : (dM (actD μ k n a) (act0 μ)).1 68 j' = (actD μ k n a).1 68 j' := by rw [dM, uI_off h5, uI_off h3, rI_ne (by decide)]
        rw [e9, actD]
        by_cases h2 : j' = 2
        · subst h2; rw [uI_at, uI_at]
        · rw [uI_off h2, uI_off h2]
          by_cases h1 : j' = 1
          · subst h1; rw [uI_at, uI_at]
          · rw [uI_off h1, uI_off h1]
            by_cases h0 : j' = 0
            · subst h0; rw [uI_at, uI_at]
            · rw [uI_off h0, uI_off h0, uI_off h3, uI_off h5]
  · by_cases h2 : c' = 69
    · subst h2
      rw [dM_69, uI_ne h1, uI_ne h1, uI_ne h1, uI_ne h1, uI_ne h1, act0]
    · rw [dM_ne h1 h2, actD, uI_ne h1, uI_ne h1, uI_ne h1, uI_ne h1, uI_ne h1, uI_ne h1, uI_ne h1, uI_ne h1]
set_option maxHeartbeats 400000 in
theorem c_S_act {j m q k : Nat} (hj : j < 4) (hm : m ≤ 4) (hq : q < m) (hk : k < 6) (w : Nat) (hw : w < 4) (x : Int32) (μ : Me) (hct : μ.1 1 1 = nI m) (hl : μ.1 (78 + 1 * j) 0 = nI q) (hkk : μ.1 (8 + 4 * q) 0 = nI k) (v : Int32) (t : DS) (hrn : rn k (nI q) (μ.1 (8 + 4 * q) 1) 8 (bd w k) x (act0 μ) = some (v, t)) : CtI m_S_act 10 [.ref 0, .int (nI j), .int (nI w), .int x] μ (if t.1 = true then -15 else v) (dM (actD μ (nI k) (nI q) (μ.1 (8 + 4 * q) 1)) t) := by
  refine Ct.of (ls := [.ref 0, .int (nI j), .int (nI w), .int x, flr, flr, flr]) rfl (Nat.le_of_ble_eq_true rfl) rfl (fun X => ?_)
  have s0 : shp[78 + 1 * j]? = some (.inl (8, [0, 0, 0])) := isSf_s j hj
  obtain ⟨l9, l0, l1, l2, l3⟩ := isL_s q (by omega)
  have e0 : (actD μ (nI k) (nI q) (μ.1 (8 + 4 * q) 1)).1 68 0 = nI k := by rw [actD, uI_off (by decide), uI_off (by decide), uI_at]
  have e1 : (actD μ (nI k) (nI q) (μ.1 (8 + 4 * q) 1)).1 68 1 = nI q := by rw [actD, uI_off (by decide), uI_at]
  have e2 : (actD μ (nI k) (nI q) (μ.1 (8 + 4 * q) 1)).1 68 2 = μ.1 (8 + 4 * q) 1 := by rw [actD, uI_at]
  have hc := (c_run k hk (actD μ (nI k) (nI q) (μ.1 (8 + 4 * q) 1)) e0 8 (bd w k) x 0 (act0 μ) v t (by decide) (Nat.zero_le _) (by rw [e1, e2]; exact hrn)).2
  have ee : ∀ c', c' ≠ 68 → (uI (uI μ 68 5 0) 68 3 0).1 c' = μ.1 c' := fun c' h => by rw [uI_ne h, uI_ne h]
  refine r_aload_n 0 d_S_act_0 rfl rfl ?_
  refine r_getR fl_S_87 (by first | with_reducible assumption | rfl) rfl d_S_act_1 ?_
  refine r_callVv (c_Doer_clear _) lk_S_369 (by first | with_reducible assumption | rfl) d_S_act_4 rfl rfl (Nat.le_of_ble_eq_true rfl) (by decide) ?_
  refine r_iload_n 1 d_S_act_7 rfl rfl ?_
  refine r_callSi (c_S_isShelf _ _) lk_S_345 d_S_act_8 rfl rfl (Nat.le_of_ble_eq_true rfl) (by decide) ?_
  refine r_if_eq d_S_act_11 (fun h11 => absurd h11 (fun z => bz_np z (f4_yes hj))) (fun h11 => ?_)
  refine r_iload_n 2 d_S_act_14 rfl rfl ?_
  refine r_iconst 3 d_S_act_15 rfl ?_
  refine r_callSi (c_S_isWithin _ _ _) lk_S_118 d_S_act_16 rfl rfl (Nat.le_of_ble_eq_true rfl) (by decide) ?_
  refine r_if_ne d_S_act_19 (fun h19 => ?_) (fun h19 => absurd h19 (fun z => bz_np z ⟨nI_pos' (by omega), nI_le (show w ≤ 3 by omega) (by decide)⟩))
  refine r_aload_n 0 d_S_act_24 rfl rfl ?_
  refine r_getR fl_S_80 (by first | with_reducible assumption | rfl) rfl d_S_act_25 ?_
  refine r_iload_n 1 d_S_act_28 rfl rfl ?_
  refine r_aald5N (by first | with_reducible assumption | rfl) (by decide) (by first | with_reducible assumption | omega | decide | assumption) d_S_act_29 ?_
  refine r_astore 4 [_, _, _, _, _, _, _] d_S_act_30 (by decide) rfl ?_
  refine r_aload_n 0 d_S_act_32 rfl rfl ?_
  refine r_getR fl_S_12 (by first | with_reducible assumption | rfl) rfl d_S_act_33 ?_
  refine r_aload 4 d_S_act_36 rfl ?_
  refine r_getI fl_S_363 (by first | with_reducible assumption | rfl) rfl d_S_act_38 ?_
  rw [ee _ (by omega), hl]
  refine r_callVa (c_School_learnerAt_yes q m hq hm _ (by rw [ee _ (by decide), hct])) lk_S_127 (by first | with_reducible assumption | rfl) d_S_act_41 rfl rfl (Nat.le_of_ble_eq_true rfl) (by decide) ?_
  refine r_astore 5 [_, _, _, _, _, _, _] d_S_act_44 (by decide) rfl ?_
  refine r_aload 5 d_S_act_46 rfl ?_
  refine r_ifnonnull d_S_act_48 ?_
  refine r_aload_n 0 d_S_act_53 rfl rfl ?_
  refine r_getR fl_S_87 (by first | with_reducible assumption | rfl) rfl d_S_act_54 ?_
  refine r_aload 5 d_S_act_57 rfl ?_
  refine r_getI fl_S_131 (by first | with_reducible assumption | rfl) rfl d_S_act_59 ?_
  rw [ee _ (by omega), hkk]
  refine r_aload 4 d_S_act_62 rfl ?_
  refine r_getI fl_S_363 (by first | with_reducible assumption | rfl) rfl d_S_act_64 ?_
  rw [ee _ (by omega), hl]
  refine r_aload 5 d_S_act_67 rfl ?_
  refine r_getI fl_S_134 (by first | with_reducible assumption | rfl) rfl d_S_act_69 ?_
  rw [ee _ (by omega)]
  refine r_callVv (c_Doer_become _ _ _ _) lk_S_372 (by first | with_reducible assumption | rfl) d_S_act_72 rfl rfl (Nat.le_of_ble_eq_true rfl) (by decide) ?_
  rw [act_dM]
  refine r_aload_n 0 d_S_act_75 rfl rfl ?_
  refine r_getR fl_S_87 (by first | with_reducible assumption | rfl) rfl d_S_act_76 ?_
  refine r_aload_n 0 d_S_act_79 rfl rfl ?_
  refine r_getR fl_S_87 (by first | with_reducible assumption | rfl) rfl d_S_act_80 ?_
  refine r_iload_n 2 d_S_act_83 rfl rfl ?_
  refine r_callVi (c_bodyOf w k hw hk _ _ e0) lk_S_375 (by first | with_reducible assumption | rfl) d_S_act_84 rfl rfl (Nat.le_of_ble_eq_true rfl) (by decide) ?_
  refine r_iload_n 3 d_S_act_87 rfl rfl ?_
  refine r_iconst 0 d_S_act_88 rfl ?_
  refine r_callSi hc lk_S_378 d_S_act_89 rfl rfl (Nat.le_of_ble_eq_true rfl) (by decide) ?_
  refine r_istore 6 [_, _, _, _, _, _, _] d_S_act_92 (by decide) rfl ?_
  refine r_aload_n 0 d_S_act_94 rfl rfl ?_
  refine r_getR fl_S_87 (by first | with_reducible assumption | rfl) rfl d_S_act_95 ?_
  refine r_getI fl_S_382 (by first | with_reducible assumption | rfl) rfl d_S_act_98 ?_
  rw [dM_3]
  refine r_if_eq d_S_act_101 (fun h101 => ?_) (fun h101 => ?_)
  · refine r_iload 6 d_S_act_109 rfl ?_
    refine r_iret .int d_S_act_111 rfl rfl ?_
    refine ⟨?_, rfl⟩
    first
      | rw [if_neg (bz_np h101)]
      | rw [if_pos (bz_p h101)]
  · refine r_bipush (-15) d_S_act_104 (by decide) ?_
    refine r_goto d_S_act_106 ?_
    refine r_iret .int d_S_act_111 rfl rfl ?_
    refine ⟨?_, rfl⟩
    first
      | rw [if_neg (bz_np h101)]
      | rw [if_pos (bz_p h101)]
