section Rules4
variable {X : Nat × (Nat → Int32)} {mt : MT} {d pc n : Nat} {ls st : List Value} {μ : Me} {Q : Option Value → Me → Prop}
theorem cl36 {j N : Nat} (h : j < N) (hN : N ≤ 1000) : (nI j).toNatClampNeg = j := nI_clamp (by omega)
theorem r_ialdN {c N b g j : Nat} (hs : shp[c]? = some (.inr (0, N, b, g))) (hj : j < N) (hd : Dc mt pc .iaload 1 n) (k : Wa X mt d n ls (.int (μ.1 c j) :: st) μ Q) : Wa X mt d pc ls (.int (nI j) :: .ref c :: st) μ Q := by
  have hN := (shp_len _ _ _ _ _ hs).1
  refine r_iald hs (vp_in_nI hj (by omega)) hd ?_
  rw [cl36 hj (by omega)]
  exact k
theorem r_baldN {c N b g j : Nat} (hs : shp[c]? = some (.inr (1, N, b, g))) (hj : j < N) (hd : Dc mt pc .baload 1 n) (k : Wa X mt d n ls (.int (μ.1 c j) :: st) μ Q) : Wa X mt d pc ls (.int (nI j) :: .ref c :: st) μ Q := by
  have hN := (shp_len _ _ _ _ _ hs).1
  refine r_bald hs (vp_in_nI hj (by omega)) hd ?_
  rw [cl36 hj (by omega)]
  exact k
theorem r_laldN {c N b g j : Nat} (hs : shp[c]? = some (.inr (2, N, b, g))) (hj : j < N) (hd : Dc mt pc .laload 1 n) (k : Wa X mt d n ls (.long (μ.2 c j) :: st) μ Q) : Wa X mt d pc ls (.int (nI j) :: .ref c :: st) μ Q := by
  have hN := (shp_len _ _ _ _ _ hs).1
  refine r_lald hs (vp_in_nI hj (by omega)) hd ?_
  rw [cl36 hj (by omega)]
  exact k
theorem r_iastN {c N b g j : Nat} {v : Int32} (hs : shp[c]? = some (.inr (0, N, b, g))) (hj : j < N) (hd : Dc mt pc .iastore 1 n) (k : Wa X mt d n ls st (uI μ c j v) Q) : Wa X mt d pc ls (.int v :: .int (nI j) :: .ref c :: st) μ Q := by
  have hN := (shp_len _ _ _ _ _ hs).1
  refine r_iast hs (vp_in_nI hj (by omega)) hd ?_
  rw [cl36 hj (by omega)]
  exact k
theorem r_bastN {c N b g j : Nat} {v : Int32} (hs : shp[c]? = some (.inr (1, N, b, g))) (hj : j < N) (hd : Dc mt pc .bastore 1 n) (k : Wa X mt d n ls st (uI μ c j (vp_nar .byte v)) Q) : Wa X mt d pc ls (.int v :: .int (nI j) :: .ref c :: st) μ Q := by
  have hN := (shp_len _ _ _ _ _ hs).1
  refine r_bast hs (vp_in_nI hj (by omega)) hd ?_
  rw [cl36 hj (by omega)]
  exact k
theorem r_lastN {c N b g j : Nat} {v : Int64} (hs : shp[c]? = some (.inr (2, N, b, g))) (hj : j < N) (hd : Dc mt pc .lastore 1 n) (k : Wa X mt d n ls st (uL μ c j v) Q) : Wa X mt d pc ls (.long v :: .int (nI j) :: .ref c :: st) μ Q := by
  have hN := (shp_len _ _ _ _ _ hs).1
  refine r_last hs (vp_in_nI hj (by omega)) hd ?_
  rw [cl36 hj (by omega)]
  exact k
theorem r_aald3N {c N b g j : Nat} (hs : shp[c]? = some (.inr (3, N, b, g))) (h4 : N ≤ 4) (hj : j < N) (hd : Dc mt pc .aaload 1 n) (k : Wa X mt d n ls (.ref (b + g * j) :: st) μ Q) : Wa X mt d pc ls (.int (nI j) :: .ref c :: st) μ Q := by
  refine r_aald3 hs h4 (vp_in_nI hj (by omega)) hd ?_
  rw [cl36 hj (by omega)]
  exact k
theorem r_aald4N {c N b g j : Nat} (hs : shp[c]? = some (.inr (4, N, b, g))) (h4 : N ≤ 4) (hj : j < N) (hd : Dc mt pc .aaload 1 n) (k : Wa X mt d n ls (.ref (b + g * j) :: st) μ Q) : Wa X mt d pc ls (.int (nI j) :: .ref c :: st) μ Q := by
  refine r_aald4 hs h4 (vp_in_nI hj (by omega)) hd ?_
  rw [cl36 hj (by omega)]
  exact k
theorem r_aald5N {c N b g j : Nat} (hs : shp[c]? = some (.inr (5, N, b, g))) (h4 : N ≤ 4) (hj : j < N) (hd : Dc mt pc .aaload 1 n) (k : Wa X mt d n ls (.ref (b + g * j) :: st) μ Q) : Wa X mt d pc ls (.int (nI j) :: .ref c :: st) μ Q := by
  refine r_aald5 hs h4 (vp_in_nI hj (by omega)) hd ?_
  rw [cl36 hj (by omega)]
  exact k
theorem r_taldN {t j : Nat} (ht : t < 8) (hj : j < (sta t).length) (hd : Dc mt pc .iaload 1 n) (k : Wa X mt d n ls (.int ((sta t).getD j 0) :: st) μ Q) : Wa X mt d pc ls (.int (nI j) :: .ref (1000 + t) :: st) μ Q := by
  have hN : (sta t).length ≤ 36 := by
    have h8 : ∀ t, t < 8 → (sta t).length ≤ 36 := by decide
    exact h8 t ht
  refine r_tald ht (vp_in_nI hj (by omega)) hd ?_
  rw [cl36 hj (by omega)]
  exact k
theorem r_iincN (i : Nat) (ls1 : List Value) {j : Nat} (hd : Dc mt pc (.iinc i 1) 3 n) (hb : i < mt.2.2.1) (hi : ls[i]? = some (.int (nI j))) (hs : st1 ls i (.int (nI (j + 1))) = ls1) (k : Wa X mt d n ls1 st μ Q) : Wa X mt d pc ls st μ Q := by
  refine r_iinc i ls1 1 hd (by decide) hb hi ?_ k
  rw [← nI_succ]
  exact hs
end Rules4
/-- a loop that counts up to N -/
theorem lpN {σ : Type} (N : Nat) (P : Nat → σ → Prop) (I : Nat → σ → Prop) (stp : ∀ (i : Nat) (s : σ), i ≤ N → I i s → (∀ s', i < N → I (i + 1) s' → P (i + 1) s') → P i s) : ∀ (i : Nat) (s : σ), i ≤ N → I i s → P i s := by
  have key : ∀ (k i : Nat) (s : σ), i + k = N → I i s → P i s := by
    intro k
    induction k with
    | zero => exact fun i s hi h => stp i s (by omega) h (fun s' hl _ => by omega)
    | succ k ih => exact fun i s hi h => stp i s (by omega) h (fun s' hl h' => ih (i + 1) s' (by omega) h')
  exact fun i s hi h => key (N - i) i s (by omega) h
theorem n_le {a b : Nat} {x y : Int32} (h : x ≤ y) (hx : x = nI a) (hy : y = nI b) (ha : a < 2 ^ 31) (hb : b < 2 ^ 31) : a ≤ b := by
  subst hx; subst hy
  exact (nI_leI ha hb).mp h
theorem n_lt {a b : Nat} {x y : Int32} (h : ¬ x ≤ y) (hx : x = nI a) (hy : y = nI b) (ha : a < 2 ^ 31) (hb : b < 2 ^ 31) : b < a := by
  subst hx; subst hy
  exact Nat.not_le.mp (fun z => h ((nI_leI ha hb).mpr z))
theorem Me_ext {μ μ' : Me} (h1 : ∀ c j, μ.1 c j = μ'.1 c j) (h2 : ∀ c j, μ.2 c j = μ'.2 c j) : μ = μ' := by
  obtain ⟨a, b⟩ := μ
  obtain ⟨a', b'⟩ := μ'
  have e1 : a = a' := funext fun c => funext fun j => h1 c j
  have e2 : b = b' := funext fun c => funext fun j => h2 c j
  rw [e1, e2]
theorem Wa.eqL {X : Nat × (Nat → Int32)} {mt : MT} {d pc : Nat} {ls ls' st : List Value} {μ : Me} {Q : Option Value → Me → Prop} (h : ls = ls') (k : Wa X mt d pc ls' st μ Q) : Wa X mt d pc ls st μ Q := h ▸ k
