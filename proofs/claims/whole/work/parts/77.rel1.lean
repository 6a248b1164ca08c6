/-! a learner in the class's cells and in the reference's row: the same head -/
theorem ifc {α : Type} {P R : Prop} [Decidable P] [Decidable R] {a b c d : α} (h : P ↔ R) (h1 : a = c) (h2 : b = d) : (if P then a else b) = if R then c else d := by
  by_cases hp : P
  · rw [if_pos hp, if_pos (h.mp hp), h1]
  · rw [if_neg hp, if_neg (fun z => hp (h.mpr z)), h2]
theorem upd_cg {f f' : Nat → Int32} {p x : Nat} {v : Int32} (h : f x = f' x) : upd f p v x = upd f' p v x := by
  by_cases e : x = p
  · subst e
    rw [pk_us, pk_us]
  · rw [pk_un e, pk_un e, h]
theorem wayS_congr {k a : Int32} {f f' : Nat → Int32} {p : Nat} {t g : Int32} (hp : p < 36) (h : ∀ q, q < 36 → f q = f' q) : wayS k a f p t g = wayS k a f' p t g := by
  have e0 : 0 ≤ nextS p 0 → f (nextS p 0).toNatClampNeg = f' (nextS p 0).toNatClampNeg := fun h0 => by
    obtain ⟨q, hq, e⟩ := next_of (x := nextS p 0) hp 0 (by decide) rfl (Int32.not_lt.mpr h0)
    rw [e, cl36 hq (by decide)]
    exact h q hq
  have e2 : 0 ≤ nextS p 2 → f (nextS p 2).toNatClampNeg = f' (nextS p 2).toNatClampNeg := fun h0 => by
    obtain ⟨q, hq, e⟩ := next_of (x := nextS p 2) hp 2 (by decide) rfl (Int32.not_lt.mpr h0)
    rw [e, cl36 hq (by decide)]
    exact h q hq
  unfold wayS
  exact ifc Iff.rfl rfl (ifc (and_congr_right (fun h0 => by rw [e0 h0])) rfl (ifc (and_congr_right (fun h0 => by rw [e2 h0])) rfl rfl))
theorem ftS_congr {k a : Int32} {f f' : Nat → Int32} {p : Nat} {t : Int32} (hp : p < 36) (h : ∀ q, q < 36 → f q = f' q) : ∀ i, i ≤ 4 → ftS k a f p t i = ftS k a f' p t i
  | 0, _ => rfl
  | i + 1, hi => by
    have ih := ftS_congr (k := k) (a := a) (t := t) hp h i (by omega)
    by_cases hn : nextS p (nI i) < 0
    · rw [ftS, ftS, if_pos hn, if_pos hn, ih]
    · obtain ⟨q, hq, e⟩ := next_of (x := nextS p (nI i)) hp i (by omega) rfl hn
      have e1 : f (nextS p (nI i)).toNatClampNeg = f' (nextS p (nI i)).toNatClampNeg := by
        rw [e, cl36 hq (by decide)]
        exact h q hq
      rw [ftS, ftS, if_neg hn, if_neg hn, ih, e1]
theorem find_congr {k a : Int32} {f f' : Nat → Int32} {p : Nat} {t g s : Int32} (hp : p < 36) (h : ∀ q, q < 36 → f q = f' q) : findS k a f p t g s = findS k a f' p t g s := by
  unfold findS
  rw [wayS_congr hp h, ftS_congr hp h 4 (by decide), h p hp]
  by_cases hw : 0 ≤ wayS k a f' p t g
  · obtain ⟨q, hq, e⟩ := way_or hp (x := wayS k a f' p t g) rfl (Int32.not_lt.mpr hw)
    have e1 : f (wayS k a f' p t g).toNatClampNeg = f' (wayS k a f' p t g).toNatClampNeg := by
      rw [e, cl36 hq (by decide)]
      exact h q hq
    rw [if_pos hw, if_pos hw, e1]
  · rw [if_neg hw, if_neg hw]
    by_cases hx : 0 ≤ (ftS k a f' p t 4).1
    · obtain ⟨q, hq, e⟩ := ft_or hp 4 (by decide) (x := (ftS k a f' p t 4).1) rfl (Int32.not_lt.mpr hx)
      have e1 : f (ftS k a f' p t 4).1.toNatClampNeg = f' (ftS k a f' p t 4).1.toNatClampNeg := by
        rw [e, cl36 hq (by decide)]
        exact h q hq
      rw [e1]
    · exact ifc Iff.rfl rfl (by rw [if_neg (fun z => hx z.1), if_neg (fun z => hx z.1)])
theorem keepFirm_congr {how : Int32} {b : Nat} {f f' : Nat → Int32} {p x : Nat} (h : ∀ q, q < 36 → f q = f' q) (hp : p < 36) (hb : how = 2 → b < 36) (hx : x < 36) : keepFirm how b f p x = keepFirm how b f' p x := by
  unfold keepFirm
  by_cases h0 : how = 0 ∨ how = 1
  · rw [if_pos h0, if_pos h0, h p hp]
    exact upd_cg (h x hx)
  · rw [if_neg h0, if_neg h0]
    by_cases h2 : how = 2
    · rw [if_pos h2, if_pos h2, h p hp]
      have e1 : upd f p (lossS (f' p)) b = upd f' p (lossS (f' p)) b := upd_cg (h b (hb h2))
      rw [e1]
      exact upd_cg (upd_cg (h x hx))
    · rw [if_neg h2, if_neg h2]
      exact h x hx
theorem keepRights_congr {how day : Int32} {r r' l l' : Nat → Int32} {p x : Nat} (hr : ∀ q, q < 36 → r q = r' q) (hl : ∀ q, q < 36 → l q = l' q) (hp : p < 36) (hx : x < 36) : keepRights how day r l p x = keepRights how day r' l' p x := by
  unfold keepRights
  rw [hl p hp, hr p hp]
  split
  · exact upd_cg (hr x hx)
  · exact hr x hx
/-- the learner in the cells c .. c + 3 of M is learner l of the row g from A on; all in range -/
def Hd (M : Nat → Nat → Int32) (c : Nat) (g : Nat → Int32) (A l : Nat) : Prop :=
  (M c 0 = kM g A l ∧ M c 1 = aM g A l) ∧ (∃ k, k < 6 ∧ kM g A l = nI k) ∧ LO g A l ∧
  ∀ q, q < 36 → (M (c + 1) q = fM g A l q ∧ M (c + 2) q = rM g A l q ∧ M (c + 3) q = lM g A l q) ∧ (∃ r, r ≤ 9 ∧ rM g A l q = nI r) ∧ (lM g A l q = -9 ∨ 0 ≤ lM g A l q)
theorem Hd.tr {M M' : Nat → Nat → Int32} {c c' : Nat} {g g' : Nat → Int32} {A A' l l' : Nat} (h : Hd M c g A l) (h0 : M' c' 0 = M c 0) (h1 : M' c' 1 = M c 1) (hq : ∀ q, q < 36 → M' (c' + 1) q = M (c + 1) q ∧ M' (c' + 2) q = M (c + 2) q ∧ M' (c' + 3) q = M (c + 3) q)
    (hk : kM g' A' l' = kM g A l) (ha : aM g' A' l' = aM g A l) (hr : ∀ q, q < 36 → fM g' A' l' q = fM g A l q ∧ rM g' A' l' q = rM g A l q ∧ lM g' A' l' q = lM g A l q) : Hd M' c' g' A' l' := by
  refine ⟨⟨by rw [h0, hk]; exact h.1.1, by rw [h1, ha]; exact h.1.2⟩, by rw [hk]; exact h.2.1, ⟨by rw [ha]; exact h.2.2.1.1, fun q hq' => by rw [(hr q hq').1]; exact h.2.2.1.2 q hq'⟩, fun q hq' => ?_⟩
  obtain ⟨a1, a2, a3⟩ := hq q hq'
  obtain ⟨b1, b2, b3⟩ := hr q hq'
  obtain ⟨⟨d1, d2, d3⟩, d4, d5⟩ := h.2.2.2 q hq'
  rw [a1, a2, a3, b1, b2, b3]
  exact ⟨⟨d1, d2, d3⟩, d4, d5⟩
theorem Hd.fr {M M' : Nat → Nat → Int32} {c : Nat} {g : Nat → Int32} {A l : Nat} (h : Hd M c g A l) (h0 : M' c = M c) (h1 : M' (c + 1) = M (c + 1)) (h2 : M' (c + 2) = M (c + 2)) (h3 : M' (c + 3) = M (c + 3)) : Hd M' c g A l :=
  h.tr (by rw [h0]) (by rw [h0]) (fun q _ => ⟨by rw [h1], by rw [h2], by rw [h3]⟩) rfl rfl (fun q _ => ⟨rfl, rfl, rfl⟩)
theorem Hd.find {M : Nat → Nat → Int32} {c : Nat} {g W : Nat → Int32} {A l p : Nat} {t w1 w2 : Int32} (h : Hd M c g A l) (hp : p < 36) (e1 : w1 = W 1) (e2 : w2 = W 2) : findS (M c 0) (M c 1) (M (c + 1)) p t w1 w2 = fd g A l p t W := by
  unfold fd
  rw [h.1.1, h.1.2, e1, e2]
  exact find_congr hp (fun q hq => (h.2.2.2 q hq).1.1)
theorem Hd.set {M M' : Nat → Nat → Int32} {c A l : Nat} {g f r x : Nat → Int32} (h : Hd M c g A l) (h0 : M' c = M c) (hq : ∀ q, q < 36 → M' (c + 1) q = f q ∧ M' (c + 2) q = r q ∧ M' (c + 3) q = x q) (rf : ∀ q, q < 36 → 0 ≤ f q ∧ f q ≤ 100) (rr : ∀ q, q < 36 → ∃ k, k ≤ 9 ∧ r q = nI k) (rx : ∀ q, q < 36 → x q = -9 ∨ 0 ≤ x q) : Hd M' c (ls3 g A l f r x) A l := by
  have ek : kM (ls3 g A l f r x) A l = kM g A l := by rw [kM, ls3_out (by omega)]; rfl
  have ea : aM (ls3 g A l f r x) A l = aM g A l := by rw [aM, ls3_out (by omega)]; rfl
  refine ⟨⟨by rw [h0, ek]; exact h.1.1, by rw [h0, ea]; exact h.1.2⟩, by rw [ek]; exact h.2.1, ls3_LO h.2.2.1 rf, fun q hq' => ?_⟩
  rw [ls3_f hq', ls3_r hq', ls3_l hq']
  exact ⟨hq q hq', rr q hq', rx q hq'⟩
theorem Hd.other {M : Nat → Nat → Int32} {c A l l' : Nat} {g f r x : Nat → Int32} (h : Hd M c g A l') (hn : l' ≠ l) : Hd M c (ls3 g A l f r x) A l' := by
  refine h.tr rfl rfl (fun q _ => ⟨rfl, rfl, rfl⟩) ?_ ?_ (fun q hq => ⟨?_, ?_, ?_⟩)
  · rw [kM, ls3_out (by omega)]; rfl
  · rw [aM, ls3_out (by omega)]; rfl
  · rw [fM, ls3_out (by omega)]; rfl
  · rw [rM, ls3_out (by omega)]; rfl
  · rw [lM, ls3_out (by omega)]; rfl
theorem fd_by {g W : Nat → Int32} {A l p : Nat} {t : Int32} (hp : p < 36) (z : (fd g A l p t W).2.1 = 2) : (fd g A l p t W).2.2.2.toNatClampNeg < 36 := by
  obtain ⟨b, hb, eb⟩ := find_by (k := kM g A l) (a := aM g A l) (f := fM g A l) (t := t) (g := W 1) (s := W 2) hp z
  have eb' : (fd g A l p t W).2.2.2 = nI b := eb
  rw [eb', cl36 hb (by decide)]
  exact hb
theorem Hd.ask {ν : Me} {c A l p : Nat} {g W : Nat → Int32} {day t : Int32} (h : Hd ν.1 c g A l) (hp : p < 36) (hd : day = g (A + 1)) (h0 : 0 ≤ day) : Hd (keepM ν c p day (fd g A l p t W)).1 c (akG g A l p (fd g A l p t W)) A l := by
  have hb := fd_by (g := g) (W := W) (A := A) (l := l) (t := t) hp
  have hf : ∀ q, q < 36 → ν.1 (c + 1) q = fM g A l q := fun q hq => (h.2.2.2 q hq).1.1
  have hr : ∀ q, q < 36 → ν.1 (c + 2) q = rM g A l q := fun q hq => (h.2.2.2 q hq).1.2.1
  have hx : ∀ q, q < 36 → ν.1 (c + 3) q = lM g A l q := fun q hq => (h.2.2.2 q hq).1.2.2
  unfold akG
  refine h.set ?_ (fun q hq => ⟨?_, ?_, ?_⟩) (keepF_rg hp hb h.2.2.1.2) (keepR_ok (fun q hq => (h.2.2.2 q hq).2.1) hp) (fun q hq => ?_)
  · rw [keepM, r3_ne (by omega) (by omega) (by omega)]
  · rw [keepM, r3_1]
    exact keepFirm_congr hf hp hb hq
  · rw [keepM, r3_2, hd]
    exact keepRights_congr hr hx hp hq
  · rw [keepM, r3_3, hd]
    exact upd_cg (hx q hq)
  · by_cases e : q = p
    · subst e
      rw [pk_us, ← hd]
      exact Or.inr h0
    · rw [pk_un e]
      exact (h.2.2.2 q hq).2.2
theorem Hd.told {ν : Me} {c A l p : Nat} {g : Nat → Int32} (h : Hd ν.1 c g A l) (hp : p < 36) : Hd (uI ν (c + 1) p (toldS (ν.1 (c + 1) p))).1 c (upd g (A + 4 + 110 * l + 3 * p) (toldS (fM g A l p))) A l := by
  have hf : ν.1 (c + 1) p = fM g A l p := (h.2.2.2 p hp).1.1
  rw [told_ls3 hp, hf]
  refine h.set ?_ (fun q hq => ⟨?_, ?_, ?_⟩) (upd_rg h.2.2.1.2 (told_r (h.2.2.1.2 p hp))) (fun q hq => (h.2.2.2 q hq).2.1) (fun q hq => (h.2.2.2 q hq).2.2)
  · rw [uI_ne (by omega)]
  · rw [uI_eq]
    exact upd_cg (h.2.2.2 q hq).1.1
  · rw [uI_ne (by omega)]
    exact (h.2.2.2 q hq).1.2.1
  · rw [uI_ne (by omega)]
    exact (h.2.2.2 q hq).1.2.2
theorem Hd.rest {M M' : Nat → Nat → Int32} {c A l m n : Nat} {g : Nat → Int32} {w : Int32} (h : Hd M c g A l) (hl : l < m) (hw : 0 ≤ w ∧ w ≤ 50) (h0 : M' c = M c) (h1 : ∀ q, q < 36 → M' (c + 1) q = behS (M (c + 2) q) w n (M (c + 1) q)) (h2 : M' (c + 2) = M (c + 2)) (h3 : M' (c + 3) = M (c + 3)) : Hd M' c (ngN g A m w n) A l := by
  have ek : kM (ngN g A m w n) A l = kM g A l := nN_k n
  have ea : aM (ngN g A m w n) A l = aM g A l := nN_a n
  refine ⟨⟨by rw [h0, ek]; exact h.1.1, by rw [h0, ea]; exact h.1.2⟩, by rw [ek]; exact h.2.1, ⟨by rw [ea]; exact h.2.2.1.1, fun q hq => ?_⟩, fun q hq => ?_⟩
  · rw [nN_f hl hq n]
    exact beh_r (h.2.2.1.2 q hq) hw (h.2.2.2 q hq).2.1 n
  · obtain ⟨⟨d1, d2, d3⟩, d4, d5⟩ := h.2.2.2 q hq
    rw [nN_f hl hq n, nN_r hq n, nN_l hq n, h1 q hq, h2, h3, d1, d2]
    exact ⟨⟨rfl, rfl, d3⟩, d4, d5⟩
theorem Hd.lend {M M' : Nat → Nat → Int32} {c c' l : Nat} {g : Nat → Int32} (h : Hd M c g 0 l) (hl : l < 4) (h0 : M' c' 0 = M c 0) (h1 : M' c' 1 = M c 1) (hq : ∀ q, q < 36 → M' (c' + 1) q = M (c + 1) q ∧ M' (c' + 2) q = M (c + 2) q ∧ M' (c' + 3) q = M (c + 3) q) : Hd M' c' (ldG g 442) 442 l :=
  h.tr h0 h1 hq (ld_k hl) (ld_a hl) (fun q hq' => ⟨ld_f hl hq', ld_r hl hq', ld_l hl hq'⟩)
/-- the set of known pairs goes by 36 bits -/
theorem knF_congr {b b' : Nat → Bool} : ∀ i, (∀ q, q < i → b q = b' q) → knF b i = knF b' i
  | 0, _ => rfl
  | i + 1, h => by rw [knF, knF, knF_congr i (fun q hq => h q (by omega)), h i (by omega)]
theorem Hd.kbe {M : Nat → Nat → Int32} {c : Nat} {g W : Nat → Int32} {A l p : Nat} {t w1 w2 : Int32} (h : Hd M c g A l) (hp : p < 36) (e1 : w1 = W 1) (e2 : w2 = W 2) : knB (M c 0) (M c 1) (M (c + 1)) t w1 w2 p = kb g A l t W p := by
  have e := h.find (W := W) (t := t) hp e1 e2
  unfold kb knB
  rw [e]
  rfl
theorem Hd.known {M : Nat → Nat → Int32} {c : Nat} {g W : Nat → Int32} {A l : Nat} {t w1 w2 : Int32} (h : Hd M c g A l) (e1 : w1 = W 1) (e2 : w2 = W 2) : knF (knB (M c 0) (M c 1) (M (c + 1)) t w1 w2) 36 = knF (kb g A l t W) 36 :=
  knF_congr 36 (fun q hq => h.kbe hq e1 e2)
theorem sumF_congr {f f' : Nat → Int32} : ∀ i, (∀ q, q < i → f q = f' q) → sumF f i = sumF f' i
  | 0, _ => rfl
  | i + 1, h => by rw [sumF, sumF, sumF_congr i (fun q hq => h q (by omega)), h i (by omega)]
