/-! what is kept of a school: learners, laws, day, z, the lesson, in the class's cells and in the reference's rows -/
theorem IT_congr {L L' : Nat → Int32} {i : Nat} (h : L' (3 * i) = L (3 * i) ∧ L' (3 * i + 1) = L (3 * i + 1) ∧ L' (3 * i + 2) = L (3 * i + 2)) (k : IT L i) : IT L' i := by
  unfold IT at k ⊢
  rw [h.1, h.2.1, h.2.2]
  exact k
def SRx (m n D : Nat) (M : Nat → Nat → Int32) (S a : Nat) (g w L : Nat → Int32) (z it : Int32) : Prop :=
  (m ≤ 4 ∧ n ≤ 12) ∧ (M S 1 = nI m ∧ g 0 = nI m) ∧ (M S 3 = nI D ∧ g 1 = nI D) ∧ M S 4 = z ∧ ((∀ q, q < 3 → M (S + 2) q = w q) ∧ 0 ≤ w 0 ∧ w 0 ≤ 50) ∧
  (M (S + 3) 3 = nI n ∧ it = nI n ∧ ∀ i, i < n → (M (S + 4) i = L (3 * i) ∧ M (S + 5) i = L (3 * i + 1) ∧ M (S + 6) i = L (3 * i + 2)) ∧ IT L i) ∧ ∀ l, l < m → Hd M (a + 4 * l) g 0 l
section SRxs
variable {m n D : Nat} {M : Nat → Nat → Int32} {S a : Nat} {g w L : Nat → Int32} {z it : Int32}
theorem SRx.m4 (h : SRx m n D M S a g w L z it) : m ≤ 4 := h.1.1
theorem SRx.n12 (h : SRx m n D M S a g w L z it) : n ≤ 12 := h.1.2
theorem SRx.cM (h : SRx m n D M S a g w L z it) : M S 1 = nI m := h.2.1.1
theorem SRx.cg (h : SRx m n D M S a g w L z it) : g 0 = nI m := h.2.1.2
theorem SRx.dM (h : SRx m n D M S a g w L z it) : M S 3 = nI D := h.2.2.1.1
theorem SRx.dg (h : SRx m n D M S a g w L z it) : g 1 = nI D := h.2.2.1.2
theorem SRx.zz (h : SRx m n D M S a g w L z it) : M S 4 = z := h.2.2.2.1
theorem SRx.ww (h : SRx m n D M S a g w L z it) : ∀ q, q < 3 → M (S + 2) q = w q := h.2.2.2.2.1.1
theorem SRx.w50 (h : SRx m n D M S a g w L z it) : 0 ≤ w 0 ∧ w 0 ≤ 50 := h.2.2.2.2.1.2
theorem SRx.ln (h : SRx m n D M S a g w L z it) : M (S + 3) 3 = nI n := h.2.2.2.2.2.1.1
theorem SRx.im (h : SRx m n D M S a g w L z it) : it = nI n := h.2.2.2.2.2.1.2.1
theorem SRx.ls (h : SRx m n D M S a g w L z it) : ∀ i, i < n → (M (S + 4) i = L (3 * i) ∧ M (S + 5) i = L (3 * i + 1) ∧ M (S + 6) i = L (3 * i + 2)) ∧ IT L i := h.2.2.2.2.2.1.2.2
theorem SRx.hd (h : SRx m n D M S a g w L z it) : ∀ l, l < m → Hd M (a + 4 * l) g 0 l := h.2.2.2.2.2.2
theorem SRx.tr {M' : Nat → Nat → Int32} {S' a' D' : Nat} {g' w' L' : Nat → Int32} {z' it' : Int32} (h : SRx m n D M S a g w L z it)
    (h1 : M' S' 1 = M S 1) (hg : g' 0 = g 0) (hd : M' S' 3 = nI D' ∧ g' 1 = nI D') (hz : M' S' 4 = z') (h2 : ∀ q, q < 3 → M' (S' + 2) q = w' q) (hw : 0 ≤ w' 0 ∧ w' 0 ≤ 50) (h3 : M' (S' + 3) 3 = M (S + 3) 3)
    (h4 : ∀ i, i < 12 → M' (S' + 4) i = M (S + 4) i ∧ M' (S' + 5) i = M (S + 5) i ∧ M' (S' + 6) i = M (S + 6) i) (hL : ∀ k, k < 36 → L' k = L k) (hi : it' = it) (h5 : ∀ l, l < m → Hd M' (a' + 4 * l) g' 0 l) : SRx m n D' M' S' a' g' w' L' z' it' := by
  have hm := h.m4
  have hn := h.n12
  refine ⟨h.1, ⟨by rw [h1]; exact h.cM, by rw [hg]; exact h.cg⟩, hd, hz, ⟨h2, hw⟩, ⟨by rw [h3]; exact h.ln, by rw [hi]; exact h.im, fun i hi' => ?_⟩, h5⟩
  obtain ⟨a1, a2, a3⟩ := h4 i (by omega)
  have b1 := hL (3 * i) (by omega)
  have b2 := hL (3 * i + 1) (by omega)
  have b3 := hL (3 * i + 2) (by omega)
  rw [a1, a2, a3, b1, b2, b3]
  exact ⟨(h.ls i hi').1, IT_congr ⟨b1, b2, b3⟩ (h.ls i hi').2⟩
theorem Hd.gg {c l : Nat} {g' : Nat → Int32} (h : Hd M c g 0 l) (hl : l < 4) (hg : ∀ i, i < 442 → g' i = g i) : Hd M c g' 0 l := by
  refine h.tr rfl rfl (fun q _ => ⟨rfl, rfl, rfl⟩) ?_ ?_ (fun q hq => ⟨?_, ?_, ?_⟩)
  · exact hg _ (by omega)
  · exact hg _ (by omega)
  · exact hg _ (by omega)
  · exact hg _ (by omega)
  · exact hg _ (by omega)
theorem SRx.fr {M' : Nat → Nat → Int32} {g' w' L' : Nat → Int32} {z' it' : Int32} (h : SRx m n D M S a g w L z it)
    (h1 : ∀ c, c = S ∨ (S + 2 ≤ c ∧ c ≤ S + 6) ∨ (a ≤ c ∧ c < a + 16) → M' c = M c) (hg : ∀ i, i < 442 → g' i = g i) (hw : w' = w) (hL : L' = L) (hz : z' = z) (hi : it' = it) : SRx m n D M' S a g' w' L' z' it' := by
  have hm := h.m4
  subst hw hL hz hi
  refine h.tr (by rw [h1 S (by omega)]) (hg 0 (by decide)) ⟨by rw [h1 S (by omega)]; exact h.dM, by rw [hg 1 (by decide)]; exact h.dg⟩ (by rw [h1 S (by omega)]; exact h.zz) (fun q hq => by rw [h1 (S + 2) (by omega)]; exact h.ww q hq) h.w50 (by rw [h1 (S + 3) (by omega)]) (fun i _ => ⟨by rw [h1 (S + 4) (by omega)], by rw [h1 (S + 5) (by omega)], by rw [h1 (S + 6) (by omega)]⟩) (fun _ _ => rfl) rfl (fun l hl => ?_)
  exact ((h.hd l hl).fr (h1 (a + 4 * l) (by omega)) (h1 (a + 4 * l + 1) (by omega)) (h1 (a + 4 * l + 2) (by omega)) (h1 (a + 4 * l + 3) (by omega))).gg (by omega) hg
end SRxs
/-- the rest of the two objects, piece by piece -/
def KP (s : Nat) (μ : Me) : Prop := (μ.1 0 2 = 0 ∧ μ.1 82 37 = 0) ∨ (¬ μ.1 0 2 = 0 ∧ ¬ μ.1 82 37 = 0 ∧ ∃ m n D, D ≤ 108 * s ∧ SRx m n D μ.1 24 31 (fun i => μ.1 100 (2 + i)) (fun q => μ.1 100 (444 + q)) (fun k => μ.1 100 (447 + k)) (μ.1 100 0) (μ.1 100 1))
def TP (μ : Me) : Prop := ∃ (u : Nat → Nat) (N : Nat), TpB μ u N ∧ TmB μ u N
def RWS (μ : Me) : Prop := ∃ n1, n1 ≤ 12 ∧ (μ.1 62 1 = nI n1 ∧ μ.1 82 23 = nI n1) ∧ ∀ k, k < 3 * n1 → μ.1 63 k = μ.1 91 k
def SHT (μ : Me) : Prop := ∀ j, j < 4 → μ.1 (70 + 2 * j) 0 = μ.1 93 j ∧ (μ.1 93 j = -1 ∨ (0 ≤ μ.1 93 j ∧ μ.1 93 j ≤ 3)) ∧ ∃ ln, ln ≤ 40 ∧ (μ.1 (70 + 2 * j) 1 = nI ln ∧ μ.1 94 j = nI ln) ∧ ∀ x, x < ln → μ.2 (70 + 2 * j + 1) x = μ.2 95 (40 * j + x)
def SHF1 (M : Nat → Nat → Int32) (j : Nat) : Prop :=
  (M (78 + 1 * j) 0 = -9 ∧ M (78 + 1 * j) 1 = -1 ∧ M 96 j = -1) ∨ (∃ q, q < 4 ∧ M (78 + 1 * j) 0 = nI q ∧ M (78 + 1 * j) 1 = -1 ∧ M 96 j = 0 ∧ M 97 j = nI q) ∨
  (M (78 + 1 * j) 0 = -9 ∧ (0 ≤ M 97 j ∧ M 97 j ≤ 3) ∧ M (78 + 1 * j) 1 = M 97 j ∧ M 96 j = 1 ∧ M (78 + 1 * j) 2 = M 98 j)
def SHF (μ : Me) : Prop := ∀ j, j < 4 → SHF1 μ.1 j
def DOE (μ : Me) : Prop := ∃ n, n ≤ 30 ∧ (μ.1 68 5 = nI n ∧ μ.1 82 35 = nI n) ∧ ∀ i, i < n → μ.1 69 i = μ.1 99 i
def CST (μ : Me) : Prop := μ.1 82 1 = nI 0 ∧ ∀ q, q < 3 → μ.1 85 q = lmS q
def SC (m n D : Nat) (μ : Me) : Prop := SRx m n D μ.1 1 8 (μ.1 83) (μ.1 84) (μ.1 89) (μ.1 82 4) (μ.1 82 18)
def RRx (m n D s : Nat) (μ : Me) : Prop := CST μ ∧ SC m n D μ ∧ KP s μ ∧ TP μ ∧ RWS μ ∧ SHT μ ∧ SHF μ ∧ DOE μ
/-- both objects behind s calls -/
def RR (s : Nat) (μ : Me) : Prop := s ≤ 64 ∧ ∃ m n D, D ≤ 108 * s ∧ RRx m n D s μ
theorem KP.mono {s : Nat} {μ : Me} (h : KP s μ) : KP (s + 1) μ := by
  rcases h with h | ⟨h1, h2, m, n, D, hD, h⟩
  · exact Or.inl h
  · exact Or.inr ⟨h1, h2, m, n, D, by omega, h⟩
theorem SC.fr {m n D : Nat} {μ μ' : Me} (h : SC m n D μ) (h1 : ∀ c, c = 1 ∨ (3 ≤ c ∧ c ≤ 7) ∨ (8 ≤ c ∧ c < 24) → μ'.1 c = μ.1 c) (hg : ∀ i, i < 442 → μ'.1 83 i = μ.1 83 i) (hw : μ'.1 84 = μ.1 84) (hL : μ'.1 89 = μ.1 89) (hz : μ'.1 82 4 = μ.1 82 4) (hi : μ'.1 82 18 = μ.1 82 18) : SC m n D μ' :=
  SRx.fr h (fun c hc => h1 c (by omega)) hg hw hL hz hi
theorem KP.fr {s : Nat} {μ μ' : Me} (h : KP s μ) (h0 : μ'.1 0 = μ.1 0) (h1 : ∀ c, 24 ≤ c ∧ c < 47 → μ'.1 c = μ.1 c) (h2 : μ'.1 100 = μ.1 100) (h3 : μ'.1 82 37 = μ.1 82 37) : KP s μ' := by
  unfold KP
  rw [h0, h2, h3]
  rcases h with h | ⟨ha, hb, m, n, D, hD, h⟩
  · exact Or.inl h
  · exact Or.inr ⟨ha, hb, m, n, D, hD, SRx.fr h (fun c hc => h1 c (by omega)) (fun _ _ => rfl) rfl rfl rfl rfl⟩
theorem TP.fr {μ μ' : Me} (h : TP μ) (h0 : μ'.1 47 1 = μ.1 47 1) (h1 : μ'.1 48 = μ.1 48) (h2 : μ'.1 82 11 = μ.1 82 11) (h3 : μ'.1 88 = μ.1 88) : TP μ' := by
  obtain ⟨u, N, a, b⟩ := h
  exact ⟨u, N, ⟨by rw [h0]; exact a.1, a.2.1, by rw [h1]; exact a.2.2⟩, ⟨by rw [h2]; exact b.1, b.2.1, by rw [h3]; exact b.2.2⟩⟩
theorem RWS.fr {μ μ' : Me} (h : RWS μ) (h0 : μ'.1 62 = μ.1 62) (h1 : μ'.1 63 = μ.1 63) (h2 : μ'.1 82 23 = μ.1 82 23) (h3 : μ'.1 91 = μ.1 91) : RWS μ' := by
  unfold RWS
  rw [h0, h1, h2, h3]
  exact h
theorem SHT.fr {μ μ' : Me} (h : SHT μ) (h0 : ∀ c, 70 ≤ c ∧ c < 78 → μ'.1 c = μ.1 c ∧ μ'.2 c = μ.2 c) (h1 : μ'.1 93 = μ.1 93) (h2 : μ'.1 94 = μ.1 94) (h3 : μ'.2 95 = μ.2 95) : SHT μ' := by
  intro j hj
  rw [(h0 (70 + 2 * j) (by omega)).1, (h0 (70 + 2 * j + 1) (by omega)).2, h1, h2, h3]
  exact h j hj
theorem SHF.fr {μ μ' : Me} (h : SHF μ) (h0 : ∀ c, 78 ≤ c ∧ c < 82 → μ'.1 c = μ.1 c) (h1 : μ'.1 96 = μ.1 96) (h2 : μ'.1 97 = μ.1 97) (h3 : μ'.1 98 = μ.1 98) : SHF μ' := by
  intro j hj
  unfold SHF1
  rw [h0 (78 + 1 * j) (by omega), h1, h2, h3]
  exact h j hj
theorem DOE.fr {μ μ' : Me} (h : DOE μ) (h0 : μ'.1 68 5 = μ.1 68 5) (h1 : μ'.1 69 = μ.1 69) (h2 : μ'.1 82 35 = μ.1 82 35) (h3 : μ'.1 99 = μ.1 99) : DOE μ' := by
  unfold DOE
  rw [h0, h1, h2, h3]
  exact h
theorem CST.fr {μ μ' : Me} (h : CST μ) (h0 : μ'.1 82 1 = μ.1 82 1) (h1 : μ'.1 85 = μ.1 85) : CST μ' := by
  unfold CST
  rw [h0, h1]
  exact h
/-- cells, and fields of the reference, that hold nothing from one call to the next -/
def scr (c : Nat) : Prop := (49 ≤ c ∧ c ≤ 61) ∨ c = 64 ∨ c = 65 ∨ c = 82 ∨ c = 83 ∨ c = 86 ∨ c = 87 ∨ c = 90 ∨ c = 92 ∨ c = 101
def scj (j : Nat) : Prop := j = 5 ∨ j = 6 ∨ j = 7 ∨ j = 12 ∨ j = 13 ∨ j = 14 ∨ j = 16 ∨ j = 17 ∨ j = 24 ∨ j = 31 ∨ j = 32 ∨ j = 33 ∨ j = 36 ∨ j = 39
def Sme (μ μ' : Me) : Prop := (∀ c, ¬ scr c → μ'.1 c = μ.1 c) ∧ (∀ j, ¬ scj j → μ'.1 82 j = μ.1 82 j) ∧ (∀ i, i < 442 → μ'.1 83 i = μ.1 83 i) ∧ ∀ c, c ≠ 82 → μ'.2 c = μ.2 c
theorem Sme.rf {μ : Me} : Sme μ μ := ⟨fun _ _ => rfl, fun _ _ => rfl, fun _ _ => rfl, fun _ _ => rfl⟩
theorem Sme.tr {μ μ' μ'' : Me} (h : Sme μ μ') (k : Sme μ' μ'') : Sme μ μ'' := ⟨fun c hc => (k.1 c hc).trans (h.1 c hc), fun c hc => (k.2.1 c hc).trans (h.2.1 c hc), fun c hc => (k.2.2.1 c hc).trans (h.2.2.1 c hc), fun c hc => (k.2.2.2 c hc).trans (h.2.2.2 c hc)⟩
theorem nscr {c : Nat} (h : c < 49 ∨ c = 62 ∨ c = 63 ∨ (66 ≤ c ∧ c < 82) ∨ c = 84 ∨ c = 85 ∨ c = 88 ∨ c = 89 ∨ c = 91 ∨ (93 ≤ c ∧ c ≤ 100)) : ¬ scr c := by unfold scr; omega
theorem nscj {j : Nat} (h : j = 1 ∨ j = 4 ∨ j = 11 ∨ j = 18 ∨ j = 23 ∨ j = 35 ∨ j = 37) : ¬ scj j := by unfold scj; omega
theorem RRx.same {m n D s : Nat} {μ μ' : Me} (h : RRx m n D s μ) (k : Sme μ μ') : RRx m n D s μ' := by
  obtain ⟨k1, k2, k3, k4⟩ := k
  obtain ⟨h1, h2, h3, h4, h5, h6, h7, h8⟩ := h
  exact ⟨h1.fr (k2 1 (nscj (by omega))) (k1 85 (nscr (by omega))), h2.fr (fun c hc => k1 c (nscr (by omega))) k3 (k1 84 (nscr (by omega))) (k1 89 (nscr (by omega))) (k2 4 (nscj (by omega))) (k2 18 (nscj (by omega))),
    h3.fr (k1 0 (nscr (by omega))) (fun c hc => k1 c (nscr (by omega))) (k1 100 (nscr (by omega))) (k2 37 (nscj (by omega))),
    h4.fr (by rw [k1 47 (nscr (by omega))]) (k1 48 (nscr (by omega))) (k2 11 (nscj (by omega))) (k1 88 (nscr (by omega))),
    h5.fr (k1 62 (nscr (by omega))) (k1 63 (nscr (by omega))) (k2 23 (nscj (by omega))) (k1 91 (nscr (by omega))),
    h6.fr (fun c hc => ⟨k1 c (nscr (by omega)), k4 c (by omega)⟩) (k1 93 (nscr (by omega))) (k1 94 (nscr (by omega))) (k4 95 (by decide)),
    h7.fr (fun c hc => k1 c (nscr (by omega))) (k1 96 (nscr (by omega))) (k1 97 (nscr (by omega))) (k1 98 (nscr (by omega))),
    h8.fr (by rw [k1 68 (nscr (by omega))]) (k1 69 (nscr (by omega))) (k2 35 (nscj (by omega))) (k1 99 (nscr (by omega)))⟩
/-- a call of both: the same answer, and both objects alike behind it -/
def OpI (y1 : MT) (d1 : Nat) (y2 : MT) (d2 : Nat) (args : List Value) (μ : Me) (s : Nat) : Prop :=
  Ct y1 d1 (.ref 0 :: args) μ (fun r μ1 => ∃ v : Int32, r = some (.int v) ∧ Ct y2 d2 (.ref 82 :: args) μ1 (fun r' μ2 => r' = some (.int v) ∧ ∃ m n D, D ≤ 108 * (s + 1) ∧ RRx m n D (s + 1) μ2))
def OpL (y1 : MT) (d1 : Nat) (y2 : MT) (d2 : Nat) (args : List Value) (μ : Me) (s : Nat) : Prop :=
  Ct y1 d1 (.ref 0 :: args) μ (fun r μ1 => ∃ v : Int64, r = some (.long v) ∧ Ct y2 d2 (.ref 82 :: args) μ1 (fun r' μ2 => r' = some (.long v) ∧ ∃ m n D, D ≤ 108 * (s + 1) ∧ RRx m n D (s + 1) μ2))
theorem opI {y1 y2 : MT} {d1 d2 : Nat} {args : List Value} {μ μ1 μ2 : Me} {s m n D : Nat} {v v' : Int32} (h1 : CtI y1 d1 (.ref 0 :: args) μ v μ1) (h2 : CtI y2 d2 (.ref 82 :: args) μ1 v' μ2) (e : v' = v) (hD : D ≤ 108 * (s + 1)) (h3 : RRx m n D (s + 1) μ2) : OpI y1 d1 y2 d2 args μ s :=
  Ct.mono (fun r μ' z => ⟨v, z.1, by rw [z.2]; exact Ct.mono (fun r' μ'' z' => ⟨by rw [z'.1, e], m, n, D, hD, by rw [z'.2]; exact h3⟩) h2⟩) h1
theorem opL {y1 y2 : MT} {d1 d2 : Nat} {args : List Value} {μ μ1 μ2 : Me} {s m n D : Nat} {v v' : Int64} (h1 : CtL y1 d1 (.ref 0 :: args) μ v μ1) (h2 : CtL y2 d2 (.ref 82 :: args) μ1 v' μ2) (e : v' = v) (hD : D ≤ 108 * (s + 1)) (h3 : RRx m n D (s + 1) μ2) : OpL y1 d1 y2 d2 args μ s :=
  Ct.mono (fun r μ' z => ⟨v, z.1, by rw [z.2]; exact Ct.mono (fun r' μ'' z' => ⟨by rw [z'.1, e], m, n, D, hD, by rw [z'.2]; exact h3⟩) h2⟩) h1
theorem RRx.up {m n D s : Nat} {μ : Me} (h : RRx m n D s μ) : RRx m n D (s + 1) μ := ⟨h.1, h.2.1, h.2.2.1.mono, h.2.2.2⟩
theorem RRx.at0 {m n D s : Nat} {μ : Me} (h : RRx m n D s μ) : μ.1 82 1 = nI 0 := h.1.1
theorem RRx.mo {m n D s : Nat} {μ : Me} (h : RRx m n D s μ) : ∀ q, q < 3 → μ.1 85 q = lmS q := h.1.2
theorem RRx.sc {m n D s : Nat} {μ : Me} (h : RRx m n D s μ) : SC m n D μ := h.2.1
theorem SC.cls {m n D : Nat} {μ : Me} (h : SC m n D μ) : μ.1 1 1 = nI m := SRx.cM h
theorem SC.ref {m n D : Nat} {μ : Me} (h : SC m n D μ) : μ.1 83 0 = nI m := SRx.cg h
theorem SC.ok {m n D : Nat} {μ : Me} (h : SC m n D μ) : RowOk (μ.1 83) 0 m := ⟨SRx.cg h, fun l hl => (SRx.hd h l hl).2.2.1, fun l hl p hp => ((SRx.hd h l hl).2.2.2 p hp).2.1⟩
theorem SC.rt {m n D : Nat} {μ : Me} (h : SC m n D μ) : RtOk μ m := fun i hi p hp => by
  obtain ⟨r, hr, e⟩ := ((SRx.hd h i hi).2.2.2 p hp).2.1
  exact ⟨r, hr, by rw [((SRx.hd h i hi).2.2.2 p hp).1.2.1, e]⟩
theorem SC.it {m n D : Nat} {μ : Me} (h : SC m n D μ) : ∀ i, i < n → IT (μ.1 89) i := fun i hi => (SRx.ls h i hi).2
theorem SC.lsok {m n D : Nat} {μ : Me} (h : SC m n D μ) : LsOk (μ.1 5) (μ.1 6) n := fun i hi => by
  obtain ⟨⟨e1, e2, e3⟩, k⟩ := SRx.ls h i hi
  rw [show μ.1 5 i = μ.1 89 (3 * i) from e1, show μ.1 6 i = μ.1 89 (3 * i + 1) from e2]
  rcases k with ⟨a, b, _⟩ | ⟨a, b⟩ | ⟨a, b⟩
  · exact Or.inl ⟨a, b⟩
  · exact Or.inr (Or.inl ⟨a, b⟩)
  · exact Or.inr (Or.inr ⟨a, b⟩)
/-- cells of the school -/
def schc (c : Nat) : Prop := c = 1 ∨ (3 ≤ c ∧ c ≤ 23) ∨ c = 84 ∨ c = 89
def Sms (μ μ' : Me) : Prop := (∀ c, ¬ scr c → ¬ schc c → μ'.1 c = μ.1 c) ∧ (∀ j, ¬ scj j → j ≠ 4 → j ≠ 18 → μ'.1 82 j = μ.1 82 j) ∧ ∀ c, c ≠ 82 → μ'.2 c = μ.2 c
theorem nsch {c : Nat} (h : c = 0 ∨ c = 2 ∨ (24 ≤ c ∧ c < 84) ∨ (85 ≤ c ∧ c < 89) ∨ 90 ≤ c) : ¬ schc c := by unfold schc; omega
theorem RRx.sch {m n D m' n' D' s : Nat} {μ μ' : Me} (h : RRx m n D s μ) (k : Sms μ μ') (hs : SC m' n' D' μ') : RRx m' n' D' s μ' := by
  obtain ⟨k1, k2, k4⟩ := k
  obtain ⟨h1, h2, h3, h4, h5, h6, h7, h8⟩ := h
  exact ⟨h1.fr (k2 1 (nscj (by omega)) (by decide) (by decide)) (k1 85 (nscr (by omega)) (nsch (by omega))), hs,
    h3.fr (k1 0 (nscr (by omega)) (nsch (by omega))) (fun c hc => k1 c (nscr (by omega)) (nsch (by omega))) (k1 100 (nscr (by omega)) (nsch (by omega))) (k2 37 (nscj (by omega)) (by decide) (by decide)),
    h4.fr (by rw [k1 47 (nscr (by omega)) (nsch (by omega))]) (k1 48 (nscr (by omega)) (nsch (by omega))) (k2 11 (nscj (by omega)) (by decide) (by decide)) (k1 88 (nscr (by omega)) (nsch (by omega))),
    h5.fr (k1 62 (nscr (by omega)) (nsch (by omega))) (k1 63 (nscr (by omega)) (nsch (by omega))) (k2 23 (nscj (by omega)) (by decide) (by decide)) (k1 91 (nscr (by omega)) (nsch (by omega))),
    h6.fr (fun c hc => ⟨k1 c (nscr (by omega)) (nsch (by omega)), k4 c (by omega)⟩) (k1 93 (nscr (by omega)) (nsch (by omega))) (k1 94 (nscr (by omega)) (nsch (by omega))) (k4 95 (by decide)),
    h7.fr (fun c hc => k1 c (nscr (by omega)) (nsch (by omega))) (k1 96 (nscr (by omega)) (nsch (by omega))) (k1 97 (nscr (by omega)) (nsch (by omega))) (k1 98 (nscr (by omega)) (nsch (by omega))),
    h8.fr (by rw [k1 68 (nscr (by omega)) (nsch (by omega))]) (k1 69 (nscr (by omega)) (nsch (by omega))) (k2 35 (nscj (by omega)) (by decide) (by decide)) (k1 99 (nscr (by omega)) (nsch (by omega)))⟩
/-- one learner's head set -/
theorem SRx.setL {m n D : Nat} {M M' : Nat → Nat → Int32} {S a : Nat} {g w L : Nat → Int32} {z it : Int32} {j : Nat} {f r x : Nat → Int32} (h : SRx m n D M S a g w L z it) (hj : j < m)
    (h1 : ∀ c, c = S ∨ (S + 2 ≤ c ∧ c ≤ S + 6) ∨ (a ≤ c ∧ c < a + 16) → c ≠ a + 4 * j + 1 → c ≠ a + 4 * j + 2 → c ≠ a + 4 * j + 3 → M' c = M c) (hS : S + 6 < a)
    (hq : ∀ q, q < 36 → M' (a + 4 * j + 1) q = f q ∧ M' (a + 4 * j + 2) q = r q ∧ M' (a + 4 * j + 3) q = x q) (rf : ∀ q, q < 36 → 0 ≤ f q ∧ f q ≤ 100) (rr : ∀ q, q < 36 → ∃ k, k ≤ 9 ∧ r q = nI k) (rx : ∀ q, q < 36 → x q = -9 ∨ 0 ≤ x q) : SRx m n D M' S a (ls3 g 0 j f r x) w L z it := by
  have hm := h.m4
  have e : ∀ c, c = S ∨ (S + 2 ≤ c ∧ c ≤ S + 6) → M' c = M c := fun c hc => h1 c (by omega) (by omega) (by omega) (by omega)
  refine h.tr (by rw [e S (by omega)]) (by rw [ls3_out (by omega)]) ⟨by rw [e S (by omega)]; exact h.dM, by rw [ls3_out (by omega)]; exact h.dg⟩ (by rw [e S (by omega)]; exact h.zz) (fun q hq => by rw [e (S + 2) (by omega)]; exact h.ww q hq) h.w50 (by rw [e (S + 3) (by omega)]) (fun i _ => ⟨by rw [e (S + 4) (by omega)], by rw [e (S + 5) (by omega)], by rw [e (S + 6) (by omega)]⟩) (fun _ _ => rfl) rfl (fun l hl => ?_)
  by_cases el : l = j
  · subst el
    exact (h.hd l hl).set (h1 _ (by omega) (by omega) (by omega) (by omega)) hq rf rr rx
  · refine ((h.hd l hl).fr ?_ ?_ ?_ ?_).other el
    · exact h1 _ (by omega) (by omega) (by omega) (by omega)
    · exact h1 _ (by omega) (by omega) (by omega) (by omega)
    · exact h1 _ (by omega) (by omega) (by omega) (by omega)
    · exact h1 _ (by omega) (by omega) (by omega) (by omega)
