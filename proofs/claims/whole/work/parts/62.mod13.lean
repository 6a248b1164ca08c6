/-! numbers: FIRM behind nights -/
def b1N (b c a : Nat) : Nat := a - a * b / (100 * (c + 1))
def bnN (b c : Nat) : Nat → Nat → Nat
  | 0, a => a
  | n + 1, a => bnN b c n (b1N b c a)
theorem b1_le {b c a : Nat} : b1N b c a ≤ a := Nat.sub_le _ _
theorem bn_le {b c : Nat} : ∀ n a, bnN b c n a ≤ a
  | 0, a => Nat.le_refl a
  | n + 1, a => Nat.le_trans (bn_le n _) b1_le
theorem b1_mono {b c a a' : Nat} (hb : b ≤ 50) (h : a ≤ a') : b1N b c a ≤ b1N b c a' := by
  obtain ⟨d, rfl⟩ := Nat.le.dest h
  unfold b1N
  have h1 : (a + d) * b ≤ a * b + d * (100 * (c + 1)) := by
    rw [Nat.add_mul]
    exact Nat.add_le_add_left (Nat.mul_le_mul_left d (by omega)) _
  have h2 : (a + d) * b / (100 * (c + 1)) ≤ a * b / (100 * (c + 1)) + d := by
    have := Nat.div_le_div_right (c := 100 * (c + 1)) h1
    rw [Nat.add_mul_div_right _ _ (by omega)] at this
    exact this
  omega
theorem bn_mono {b c : Nat} (hb : b ≤ 50) : ∀ n {a a' : Nat}, a ≤ a' → bnN b c n a ≤ bnN b c n a'
  | 0, _, _, h => h
  | n + 1, _, _, h => bn_mono hb n (b1_mono hb h)
theorem b1_e {a b c : Nat} (ha : a ≤ 100) (hb : b ≤ 50) (hc : c ≤ 9) : nI a - nI a * nI b / (100 * (nI c + 1)) = nI (b1N b c a) := by
  have h1 : a * b ≤ 100 * 50 := Nat.mul_le_mul ha hb
  have h2 : a * b / (100 * (c + 1)) ≤ a := Nat.div_le_of_le_mul (by rw [Nat.mul_comm]; exact Nat.mul_le_mul_right a (by omega))
  rw [pk_mul, ← nI_succ, show (100 : Int32) * nI (c + 1) = nI (100 * (c + 1)) from pk_mul 100 (c + 1), pk_div (by omega) (by omega) (by omega), pk_sub h2, b1N]
theorem beh_e {b c : Nat} (hb : b ≤ 50) (hc : c ≤ 9) : ∀ (n a : Nat), a ≤ 100 → behS (nI c) (nI b) n (nI a) = nI (bnN b c n a)
  | 0, a, _ => rfl
  | n + 1, a, ha => by
    rw [behS, b1_e ha hb hc, beh_e hb hc n _ (Nat.le_trans b1_le ha), bnN]
theorem r100n {f : Int32} (h : 0 ≤ f ∧ f ≤ 100) : ∃ a, a ≤ 100 ∧ f = nI a := nI_of2 (M := 100) (n := 100) (by decide) (Int32.not_lt.mpr h.1) h.2
theorem r50n {f : Int32} (h : 0 ≤ f ∧ f ≤ 50) : ∃ a, a ≤ 50 ∧ f = nI a := nI_of2 (M := 50) (n := 50) (by decide) (Int32.not_lt.mpr h.1) h.2
theorem n100r {a : Nat} (h : a ≤ 100) : 0 ≤ nI a ∧ nI a ≤ 100 := ⟨nI_pos' (by omega), nI_le (b := 100) h (by decide)⟩
theorem beh_r {f r w : Int32} (hf : 0 ≤ f ∧ f ≤ 100) (hw : 0 ≤ w ∧ w ≤ 50) (hr : ∃ c, c ≤ 9 ∧ r = nI c) (n : Nat) : 0 ≤ behS r w n f ∧ behS r w n f ≤ 100 := by
  obtain ⟨a, ha, rfl⟩ := r100n hf
  obtain ⟨b, hb, rfl⟩ := r50n hw
  obtain ⟨c, hc, rfl⟩ := hr
  rw [beh_e hb hc n a ha]
  exact n100r (Nat.le_trans (bn_le n a) ha)
theorem told_ge : ∀ a, a ≤ 100 → ∃ b, a ≤ b ∧ b ≤ 100 ∧ toldS (nI a) = nI b := by
  have h : ∀ a : Fin 101, ∃ b : Fin 101, a.val ≤ b.val ∧ toldS (nI a.val) = nI b.val := by decide +kernel
  intro a ha
  obtain ⟨b, h1, h2⟩ := h ⟨a, by omega⟩
  exact ⟨b.val, h1, by omega, h2⟩
/-- what `best` wants to know of a LEARNER's numbers -/
theorem gain_ok {f r w : Int32} (hf : 0 ≤ f ∧ f ≤ 100) (hw : 0 ≤ w ∧ w ≤ 50) (hr : ∃ c, c ≤ 9 ∧ r = nI c) (n : Nat) : (0 ≤ behS r w n (toldS f) - behS r w n f ∧ behS r w n (toldS f) - behS r w n f ≤ 100) ∧ (0 ≤ behS r w n (toldS (toldS f)) - behS r w n f ∧ behS r w n (toldS (toldS f)) - behS r w n f ≤ 100) := by
  obtain ⟨a, ha, rfl⟩ := r100n hf
  obtain ⟨b, hb, rfl⟩ := r50n hw
  obtain ⟨c, hc, rfl⟩ := hr
  obtain ⟨a1, h1, h2, e1⟩ := told_ge a ha
  obtain ⟨a2, h3, h4, e2⟩ := told_ge a1 h2
  rw [e1, e2, beh_e hb hc n a ha, beh_e hb hc n a1 h2, beh_e hb hc n a2 h4]
  have m1 := bn_mono (c := c) hb n h1
  have m2 := bn_mono (c := c) hb n h3
  have l1 := bn_le (b := b) (c := c) n a1
  have l2 := bn_le (b := b) (c := c) n a2
  rw [pk_sub m1, pk_sub (by omega)]
  exact ⟨n100r (by omega), n100r (by omega)⟩
/-! the rows that the reference may have -/
def RowOk (g : Nat → Int32) (A m : Nat) : Prop := g A = nI m ∧ (∀ l, l < m → LO g A l) ∧ RtM g A m
theorem gain_r {f : Int32} (h : 0 ≤ f ∧ f ≤ 100) : 0 ≤ gainS f ∧ gainS f ≤ 100 := by rw [← gain_e h, kpS]; grind
theorem more_r {f : Int32} (h : 0 ≤ f ∧ f ≤ 100) : 0 ≤ moreS f ∧ moreS f ≤ 100 := by rw [← more_e h, kpS]; grind
theorem upd_rg {f : Nat → Int32} {p : Nat} {v : Int32} (h : ∀ q, q < 36 → 0 ≤ f q ∧ f q ≤ 100) (hv : 0 ≤ v ∧ v ≤ 100) : ∀ q, q < 36 → 0 ≤ upd f p v q ∧ upd f p v q ≤ 100 := fun q hq => by
  by_cases e : q = p
  · rw [upd, if_pos e]; exact hv
  · rw [upd, if_neg e]; exact h q hq
theorem keepF_rg {how : Int32} {q : Nat} {f : Nat → Int32} {p : Nat} (hp : p < 36) (hq : how = 2 → q < 36) (h : ∀ q, q < 36 → 0 ≤ f q ∧ f q ≤ 100) : ∀ x, x < 36 → 0 ≤ keepFirm how q f p x ∧ keepFirm how q f p x ≤ 100 := by
  unfold keepFirm
  split
  · exact upd_rg h (gain_r (h p hp))
  · split
    · rename_i h2
      exact upd_rg (upd_rg h (loss_r (h p hp))) (more_r (upd_rg h (loss_r (h p hp)) q (hq h2)))
    · exact h
theorem ls3_LO {g : Nat → Int32} {A l : Nat} {f r x : Nat → Int32} {l' : Nat} (h : LO g A l') (hf : ∀ p, p < 36 → 0 ≤ f p ∧ f p ≤ 100) : LO (ls3 g A l f r x) A l' := by
  by_cases e : l' = l
  · subst e
    refine ⟨?_, fun p hp => by rw [ls3_f hp]; exact hf p hp⟩
    rw [aM, ls3_out (by omega)]
    exact h.1
  · refine ⟨?_, fun p hp => ?_⟩
    · rw [aM, ls3_out (by omega)]
      exact h.1
    · rw [fM, ls3_out (by omega)]
      exact h.2 p hp
theorem ls3_RtM {g : Nat → Int32} {A l m : Nat} {f r x : Nat → Int32} (h : RtM g A m) (hr : ∀ p, p < 36 → ∃ c, c ≤ 9 ∧ r p = nI c) : RtM (ls3 g A l f r x) A m := fun l' hl' p hp => by
  by_cases e : l' = l
  · subst e; rw [ls3_r hp]; exact hr p hp
  · rw [rM, ls3_out (by omega)]; exact h l' hl' p hp
theorem ls3_A {g : Nat → Int32} {A l : Nat} {f r x : Nat → Int32} : ls3 g A l f r x A = g A := ls3_out (by omega)
theorem RowOk.ak {g : Nat → Int32} {A l m p : Nat} (h : RowOk g A m) (hl : l < m) (hp : p < 36) (t : Int32) (W : Nat → Int32) : RowOk (akG g A l p (fd g A l p t W)) A m := by
  refine ⟨by rw [akG, ls3_A]; exact h.1, fun l' hl' => ?_, ?_⟩
  · rw [akG]
    refine ls3_LO (h.2.1 l' hl') (keepF_rg hp (fun z => ?_) (h.2.1 l hl).2)
    obtain ⟨b, hb, eb⟩ := find_by (k := kM g A l) (a := aM g A l) (f := fM g A l) (t := t) (g := W 1) (s := W 2) hp z
    have eb' : (fd g A l p t W).2.2.2 = nI b := eb
    rw [eb', cl36 hb (by decide)]
    exact hb
  · rw [akG]
    exact ls3_RtM h.2.2 (keepR_ok (h.2.2 l hl) hp)
theorem told_ls3 {g : Nat → Int32} {A l p : Nat} {v : Int32} (hp : p < 36) : upd g (A + 4 + 110 * l + 3 * p) v = ls3 g A l (upd (fM g A l) p v) (rM g A l) (lM g A l) := by
  rw [← ls3_u1 hp, ls3_self]
theorem RowOk.told {g : Nat → Int32} {A l m p : Nat} (h : RowOk g A m) (hl : l < m) (hp : p < 36) : RowOk (upd g (A + 4 + 110 * l + 3 * p) (toldS (fM g A l p))) A m := by
  rw [told_ls3 hp]
  exact ⟨by rw [ls3_A]; exact h.1, fun l' hl' => ls3_LO (h.2.1 l' hl') (upd_rg (h.2.1 l hl).2 (told_r ((h.2.1 l hl).2 p hp))), ls3_RtM h.2.2 (h.2.2 l hl)⟩
theorem RowOk.nights {g : Nat → Int32} {A m : Nat} (h : RowOk g A m) {w : Int32} (hw : 0 ≤ w ∧ w ≤ 50) (n : Nat) : RowOk (ngN g A m w n) A m := by
  refine ⟨by rw [nN_A]; exact h.1, fun l hl => ⟨by rw [nN_a]; exact (h.2.1 l hl).1, fun p hp => ?_⟩, h.2.2.ngN n⟩
  rw [nN_f hl hp]
  exact beh_r ((h.2.1 l hl).2 p hp) hw (h.2.2 l hl p hp) n
theorem RowOk.lend {g : Nat → Int32} {m : Nat} (hm : m ≤ 4) (h : RowOk g 0 m) : RowOk (ldG g 442) 442 m := by
  refine ⟨?_, fun l hl => ⟨by rw [ld_a (by omega)]; exact (h.2.1 l hl).1, fun p hp => by rw [ld_f (by omega) hp]; exact (h.2.1 l hl).2 p hp⟩, h.2.2.lend hm⟩
  have := ld_hi (g := g) (i := 0) (by decide)
  rw [show 442 + 0 = 442 from rfl] at this
  rw [this]; exact h.1
theorem RtM.le9 {g : Nat → Int32} {A m l p : Nat} (h : RtM g A m) (hl : l < m) (hp : p < 36) : rM g A l p ≤ 9 := by
  obtain ⟨c, h1, h2⟩ := h l hl p hp
  rw [h2]; exact nI_le (b := 9) h1 (by decide)
/-! an ITEM done -/
abbrev Q4 : Type := Int32 × Int32 × Int32 × Int32
def IT (L : Nat → Int32) (i : Nat) : Prop := (L (3 * i) = 0 ∧ (∃ p, p < 36 ∧ L (3 * i + 1) = nI p) ∧ 1 ≤ L (3 * i + 2) ∧ L (3 * i + 2) ≤ 9) ∨ (L (3 * i) = 1 ∧ ∃ p, p < 36 ∧ L (3 * i + 1) = nI p) ∨ (L (3 * i) = 2 ∧ ∃ p, p ≤ 9 ∧ L (3 * i + 1) = nI p)
def dst (A l m : Nat) (W L : Nat → Int32) (s : (Nat → Int32) × Q4) (i : Nat) : (Nat → Int32) × Q4 :=
  if L (3 * i) = 0 then (akG s.1 A l (L (3 * i + 1)).toNatClampNeg (fd s.1 A l (L (3 * i + 1)).toNatClampNeg (L (3 * i + 2)) W), fd s.1 A l (L (3 * i + 1)).toNatClampNeg (L (3 * i + 2)) W)
  else if L (3 * i) = 1 then (upd s.1 (A + 4 + 110 * l + 3 * (L (3 * i + 1)).toNatClampNeg) (toldS (fM s.1 A l (L (3 * i + 1)).toNatClampNeg)), s.2)
  else (ngN s.1 A m (W 0) (L (3 * i + 1)).toNatClampNeg, s.2)
def dsv (A l : Nat) (W L : Nat → Int32) (s : (Nat → Int32) × Q4) (i : Nat) : Int32 := if L (3 * i) = 0 then (fd s.1 A l (L (3 * i + 1)).toNatClampNeg (L (3 * i + 2)) W).1 else 0
theorem dst_ok {A l m i : Nat} {W L : Nat → Int32} {s : (Nat → Int32) × Q4} (h : RowOk s.1 A m) (hl : l < m) (hi : IT L i) (hW : 0 ≤ W 0 ∧ W 0 ≤ 50) : RowOk (dst A l m W L s i).1 A m := by
  rcases hi with ⟨h0, ⟨p, hp, ep⟩, -⟩ | ⟨h0, p, hp, ep⟩ | ⟨h0, p, hp, ep⟩
  · rw [dst, if_pos h0, ep, cl36 hp (by decide)]
    exact h.ak hl hp _ _
  · rw [dst, if_neg (by rw [h0]; decide), if_pos h0, ep, cl36 hp (by decide)]
    exact h.told hl hp
  · rw [dst, if_neg (by rw [h0]; decide), if_neg (by rw [h0]; decide)]
    exact h.nights hW _
def dsM (μ : Me) (s : (Nat → Int32) × Q4) : Me := rI (saM μ s.2) 83 s.1
theorem dsM_ne {μ : Me} {s : (Nat → Int32) × Q4} {c : Nat} (h : c ≠ 82) (h2 : c ≠ 83) : (dsM μ s).1 c = μ.1 c := by rw [dsM, rI_ne h2, saM_ne h]
theorem dsM_83 {μ : Me} {s : (Nat → Int32) × Q4} : (dsM μ s).1 83 = s.1 := by rw [dsM, rI_eq]
theorem dsM_o {μ : Me} {s : (Nat → Int32) × Q4} {j : Nat} (h5 : j ≠ 5) (h6 : j ≠ 6) (h7 : j ≠ 7) : (dsM μ s).1 82 j = μ.1 82 j := by rw [dsM, rI_ne (by decide), saM_o h5 h6 h7]
theorem dsM_5 {μ : Me} {s : (Nat → Int32) × Q4} : (dsM μ s).1 82 5 = s.2.2.1 := by rw [dsM, rI_ne (by decide), saM_5]
theorem dsM_7 {μ : Me} {s : (Nat → Int32) × Q4} : (dsM μ s).1 82 7 = s.2.2.2.1 := by rw [dsM, rI_ne (by decide), saM_7]
theorem dsM_set {μ : Me} {s : (Nat → Int32) × Q4} {g : Nat → Int32} : rI (dsM μ s) 83 g = dsM μ (g, s.2) := by rw [dsM, rI_rI, dsM]
theorem dsM_ask {μ : Me} {s : (Nat → Int32) × Q4} {g : Nat → Int32} {q : Q4} : rI (saM (dsM μ s) q) 83 g = dsM μ (g, q) := by rw [dsM, saM_rI (by decide), saM_saM, rI_rI, dsM]
set_option maxHeartbeats 400000 in
theorem c_M_does {A l m i : Nat} (hA : A ≤ 442) (hm : m ≤ 4) (hl : l < m) (hi : i < 12) (μ : Me) (s : (Nat → Int32) × Q4) (hat : μ.1 82 1 = nI A) (hI : IT (μ.1 89) i) (hR : RowOk s.1 A m) : CtI m_M_does 7 [.ref 82, .int (nI l), .int (nI i)] (dsM μ s) (dsv A l (μ.1 84) (μ.1 89) s i) (dsM μ (dst A l m (μ.1 84) (μ.1 89) s i)) := by
  refine Ct.of (ls := [.ref 82, .int (nI l), .int (nI i), flr, flr]) rfl (Nat.le_of_ble_eq_true rfl) rfl (fun X => ?_)
  have e84 : ∀ s, (dsM μ s).1 84 = μ.1 84 := fun s => dsM_ne (by decide) (by decide)
  have e89 : ∀ s, (dsM μ s).1 89 = μ.1 89 := fun s => dsM_ne (by decide) (by decide)
  have hat1 : ∀ s, (dsM μ s).1 82 1 = nI A := fun s => by rw [dsM_o (by decide) (by decide) (by decide), hat]
  have hl4 : l < 4 := by omega
  rcases hI with ⟨h0, ⟨p, hp, ep⟩, ht⟩ | ⟨h0, p, hp, ep⟩ | ⟨h0, p, hp, ep⟩
  · rw [dsv, dst, if_pos h0, if_pos h0, ep, cl36 hp (by decide)]
    have ca := c_M_asked hA hl4 hp (μ.1 89 (3 * i + 2)) ht (dsM μ s) (hat1 _) (by rw [dsM_83]; exact hR.2.1 l hl) (by rw [dsM_83]; exact hR.2.2.le9 hl hp)
    rw [dsM_83, e84, dsM_ask] at ca
    refine r_aload_n 0 d_M_does_0 rfl rfl ?_
    refine r_getR fl_M_32 (by first | with_reducible assumption | rfl) rfl d_M_does_1 ?_
    refine r_iconst 3 d_M_does_4 rfl ?_
    refine r_iload_n 2 d_M_does_5 rfl rfl ?_
    refine r_imul d_M_does_6 ?_
    refine r_iconst 1 d_M_does_7 rfl ?_
    refine r_iadd d_M_does_8 ?_
    rw [mul3, ← nI_succ]
    refine r_ialdN (by first | with_reducible assumption | rfl) (show 3 * i + 1 < 36 by omega) d_M_does_9 ?_
    rw [e89, ep]
    refine r_istore_n 3 [_, _, _, _, _] d_M_does_10 rfl (by decide) rfl ?_
    refine r_aload_n 0 d_M_does_11 rfl rfl ?_
    refine r_getR fl_M_32 (by first | with_reducible assumption | rfl) rfl d_M_does_12 ?_
    refine r_iconst 3 d_M_does_15 rfl ?_
    refine r_iload_n 2 d_M_does_16 rfl rfl ?_
    refine r_imul d_M_does_17 ?_
    rw [mul3]
    refine r_ialdN (by first | with_reducible assumption | rfl) (show 3 * i < 36 by omega) d_M_does_18 ?_
    rw [e89, h0]
    refine r_ls d_M_does_19 (List.forall_mem_cons.mpr ⟨fun h19 => ?_, List.forall_mem_cons.mpr ⟨fun h19 => ?_, fun _ h => absurd h List.not_mem_nil⟩⟩) (fun h19 => ?_)
    · refine r_aload_n 0 d_M_does_44 rfl rfl ?_
      refine r_iload_n 1 d_M_does_45 rfl rfl ?_
      refine r_iload_n 3 d_M_does_46 rfl rfl ?_
      refine r_aload_n 0 d_M_does_47 rfl rfl ?_
      refine r_getR fl_M_32 (by first | with_reducible assumption | rfl) rfl d_M_does_48 ?_
      refine r_iconst 3 d_M_does_51 rfl ?_
      refine r_iload_n 2 d_M_does_52 rfl rfl ?_
      refine r_imul d_M_does_53 ?_
      refine r_iconst 2 d_M_does_54 rfl ?_
      refine r_iadd d_M_does_55 ?_
      rw [mul3, add2]
      refine r_ialdN (by first | with_reducible assumption | rfl) (show 3 * i + 2 < 36 by omega) d_M_does_56 ?_
      rw [e89]
      refine r_callVi ca lk_M_183 (by first | with_reducible assumption | rfl) d_M_does_57 rfl rfl (Nat.le_of_ble_eq_true rfl) (by decide) ?_
      refine r_iret .int d_M_does_60 rfl rfl ?_
      exact ⟨rfl, rfl⟩
    · exact absurd h19 (by decide)
    · exact absurd rfl (h19 (0, 44) (by simp))
  · rw [dsv, dst, if_neg (by rw [h0]; decide), if_neg (by rw [h0]; decide), if_pos h0, ep, cl36 hp (by decide)]
    have ct := c_M_isTold hA hl4 hp (dsM μ s) (hat1 _) (by rw [dsM_83]; exact hR.2.1 l hl)
    rw [uI, dsM_83, dsM_set] at ct
    refine r_aload_n 0 d_M_does_0 rfl rfl ?_
    refine r_getR fl_M_32 (by first | with_reducible assumption | rfl) rfl d_M_does_1 ?_
    refine r_iconst 3 d_M_does_4 rfl ?_
    refine r_iload_n 2 d_M_does_5 rfl rfl ?_
    refine r_imul d_M_does_6 ?_
    refine r_iconst 1 d_M_does_7 rfl ?_
    refine r_iadd d_M_does_8 ?_
    rw [mul3, ← nI_succ]
    refine r_ialdN (by first | with_reducible assumption | rfl) (show 3 * i + 1 < 36 by omega) d_M_does_9 ?_
    rw [e89, ep]
    refine r_istore_n 3 [_, _, _, _, _] d_M_does_10 rfl (by decide) rfl ?_
    refine r_aload_n 0 d_M_does_11 rfl rfl ?_
    refine r_getR fl_M_32 (by first | with_reducible assumption | rfl) rfl d_M_does_12 ?_
    refine r_iconst 3 d_M_does_15 rfl ?_
    refine r_iload_n 2 d_M_does_16 rfl rfl ?_
    refine r_imul d_M_does_17 ?_
    rw [mul3]
    refine r_ialdN (by first | with_reducible assumption | rfl) (show 3 * i < 36 by omega) d_M_does_18 ?_
    rw [e89, h0]
    refine r_ls d_M_does_19 (List.forall_mem_cons.mpr ⟨fun h19 => ?_, List.forall_mem_cons.mpr ⟨fun h19 => ?_, fun _ h => absurd h List.not_mem_nil⟩⟩) (fun h19 => ?_)
    · exact absurd h19 (by decide)
    · refine r_aload_n 0 d_M_does_61 rfl rfl ?_
      refine r_iload_n 1 d_M_does_62 rfl rfl ?_
      refine r_iload_n 3 d_M_does_63 rfl rfl ?_
      refine r_callVv ct lk_M_186 (by first | with_reducible assumption | rfl) d_M_does_64 rfl rfl (Nat.le_of_ble_eq_true rfl) (by decide) ?_
      refine r_iconst 0 d_M_does_67 rfl ?_
      refine r_iret .int d_M_does_68 rfl rfl ?_
      exact ⟨rfl, rfl⟩
    · exact absurd rfl (h19 (1, 61) (by simp))
  · rw [dsv, dst, if_neg (by rw [h0]; decide), if_neg (by rw [h0]; decide), if_neg (by rw [h0]; decide), ep, cl36 (show p < 10 by omega) (by decide)]
    refine r_aload_n 0 d_M_does_0 rfl rfl ?_
    refine r_getR fl_M_32 (by first | with_reducible assumption | rfl) rfl d_M_does_1 ?_
    refine r_iconst 3 d_M_does_4 rfl ?_
    refine r_iload_n 2 d_M_does_5 rfl rfl ?_
    refine r_imul d_M_does_6 ?_
    refine r_iconst 1 d_M_does_7 rfl ?_
    refine r_iadd d_M_does_8 ?_
    rw [mul3, ← nI_succ]
    refine r_ialdN (by first | with_reducible assumption | rfl) (show 3 * i + 1 < 36 by omega) d_M_does_9 ?_
    rw [e89, ep]
    refine r_istore_n 3 [_, _, _, _, _] d_M_does_10 rfl (by decide) rfl ?_
    refine r_aload_n 0 d_M_does_11 rfl rfl ?_
    refine r_getR fl_M_32 (by first | with_reducible assumption | rfl) rfl d_M_does_12 ?_
    refine r_iconst 3 d_M_does_15 rfl ?_
    refine r_iload_n 2 d_M_does_16 rfl rfl ?_
    refine r_imul d_M_does_17 ?_
    rw [mul3]
    refine r_ialdN (by first | with_reducible assumption | rfl) (show 3 * i < 36 by omega) d_M_does_18 ?_
    rw [e89, h0]
    refine r_ls d_M_does_19 (List.forall_mem_cons.mpr ⟨fun h19 => ?_, List.forall_mem_cons.mpr ⟨fun h19 => ?_, fun _ h => absurd h List.not_mem_nil⟩⟩) (fun h19 => ?_)
    · exact absurd h19 (by decide)
    · exact absurd h19 (by decide)
    · refine r_iconst 0 d_M_does_69 rfl ?_
      refine r_istore 4 [_, _, _, _, _] d_M_does_70 (by decide) rfl ?_
      refine lpN p (fun x (μ1 : Me) => Wa X m_M_does 7 72 [.ref 82, .int (nI l), .int (nI i), .int (nI p), .int (nI x)] [] μ1 _) (fun x μ1 => μ1 = dsM μ (ngN s.1 A m (μ.1 84 0) x, s.2)) ?_ 0 _ (Nat.zero_le _) rfl
      intro x μ1 hx hv hk
      subst hv
      refine r_iload 4 d_M_does_72 rfl ?_
      refine r_iload_n 3 d_M_does_74 rfl rfl ?_
      refine r_icmp_ge d_M_does_75 (fun h75 => ?_) (fun h75 => ?_)
      · refine r_iconst 0 d_M_does_88 rfl ?_
        refine r_iret .int d_M_does_89 rfl rfl ?_
        have hge := n_le h75 rfl rfl (by omega) (by omega)
        obtain rfl : x = p := by omega
        exact ⟨rfl, rfl⟩
      · have hlx : x < p := n_lt h75 rfl rfl (by omega) (by omega)
        have cn := c_M_nightGoes hA hm (dsM μ (ngN s.1 A m (μ.1 84 0) x, s.2)) (hat1 _) (by rw [dsM_83]; exact (nN_A x).trans hR.1) (by rw [dsM_83]; exact hR.2.2.ngN _)
        rw [dsM_83, e84, dsM_set] at cn
        refine r_aload_n 0 d_M_does_78 rfl rfl ?_
        refine r_callVv cn lk_M_190 (by first | with_reducible assumption | rfl) d_M_does_79 rfl rfl (Nat.le_of_ble_eq_true rfl) (by decide) ?_
        first | refine r_iincN 4 [_, _, _, _, _] d_M_does_82 (by decide) rfl rfl ?_ | refine r_iinc 4 [_, _, _, _, _] (1) d_M_does_82 (by decide) (by decide) rfl rfl ?_
        refine r_goto d_M_does_85 ?_
        exact hk _ hlx (by rw [ngN])
/-- ITEMS done one behind the other: the row, the last answer; how many were right -/
def gv2 (A l m : Nat) (W L : Nat → Int32) (s0 : (Nat → Int32) × Q4) : Nat → ((Nat → Int32) × Q4) × Nat
  | 0 => (s0, 0)
  | i + 1 => (dst A l m W L (gv2 A l m W L s0 i).1 i, if L (3 * i) = 0 ∧ (dst A l m W L (gv2 A l m W L s0 i).1 i).2.2.1 ≤ 1 then (gv2 A l m W L s0 i).2 + 1 else (gv2 A l m W L s0 i).2)
theorem gv2_ok {A l m : Nat} {W L : Nat → Int32} {s0 : (Nat → Int32) × Q4} (h : RowOk s0.1 A m) (hl : l < m) (hW : 0 ≤ W 0 ∧ W 0 ≤ 50) {n : Nat} (hI : ∀ i, i < n → IT L i) : ∀ i, i ≤ n → RowOk (gv2 A l m W L s0 i).1.1 A m
  | 0, _ => h
  | i + 1, hi => dst_ok (gv2_ok h hl hW hI i (by omega)) hl (hI i (by omega)) hW
theorem gv2_le {A l m : Nat} {W L : Nat → Int32} {s0 : (Nat → Int32) × Q4} : ∀ i, (gv2 A l m W L s0 i).2 ≤ i
  | 0 => Nat.le_refl _
  | i + 1 => by
    have := gv2_le (A := A) (l := l) (m := m) (W := W) (L := L) (s0 := s0) i
    rw [gv2]
    simp only
    split <;> omega
def q0 (μ : Me) : Q4 := (0, μ.1 82 5, μ.1 82 7, μ.1 82 6)
theorem dsM_0 {μ : Me} : dsM μ (μ.1 83, q0 μ) = μ := by
  have e : saM μ (q0 μ) = μ := by
    rw [saM, q0]
    simp only
    rw [uI_self (v := μ.1 82 6) rfl, uI_self (v := μ.1 82 5) rfl, uI_self (v := μ.1 82 7) rfl]
  rw [dsM]
  simp only
  rw [e, rI_self]
set_option maxHeartbeats 400000 in
theorem c_M_give_no {m : Nat} (hm : m ≤ 4) (l : Int32) (μ : Me) (hct : μ.1 83 0 = nI m) (hG : ¬ (0 ≤ l ∧ l < nI m)) : CtI m_M_give 8 [.ref 82, .int l] μ (-1) μ := by
  refine Ct.of (ls := [.ref 82, .int l, flr, flr, flr]) rfl (Nat.le_of_ble_eq_true rfl) rfl (fun X => ?_)
  refine r_aload_n 0 d_M_give_0 rfl rfl ?_
  refine r_iload_n 1 d_M_give_1 rfl rfl ?_
  refine r_callVi (c_M_isLearner hm _ _ hct) lk_M_115 (by first | with_reducible assumption | rfl) d_M_give_2 rfl rfl (Nat.le_of_ble_eq_true rfl) (by decide) ?_
  refine r_if_ne d_M_give_5 (fun h5 => absurd (bzn hG) h5) (fun h5 => ?_)
  refine r_iconst (-1) d_M_give_8 rfl ?_
  refine r_iret .int d_M_give_9 rfl rfl ?_
  exact ⟨rfl, rfl⟩
set_option maxHeartbeats 400000 in
theorem c_M_give {m j n : Nat} (hm : m ≤ 4) (hj : j < m) (hn : n ≤ 12) (μ : Me) (hat : μ.1 82 1 = nI 0) (hln : μ.1 82 18 = nI n) (hR : RowOk (μ.1 83) 0 m) (hW : 0 ≤ μ.1 84 0 ∧ μ.1 84 0 ≤ 50) (hI : ∀ i, i < n → IT (μ.1 89) i) : CtI m_M_give 8 [.ref 82, .int (nI j)] μ (nI (gv2 0 j m (μ.1 84) (μ.1 89) (μ.1 83, q0 μ) n).2) (dsM μ (gv2 0 j m (μ.1 84) (μ.1 89) (μ.1 83, q0 μ) n).1) := by
  refine Ct.of (ls := [.ref 82, .int (nI j), flr, flr, flr]) rfl (Nat.le_of_ble_eq_true rfl) rfl (fun X => ?_)
  have gs : ∀ i, gv2 0 j m (μ.1 84) (μ.1 89) (μ.1 83, q0 μ) (i + 1) = (dst 0 j m (μ.1 84) (μ.1 89) (gv2 0 j m (μ.1 84) (μ.1 89) (μ.1 83, q0 μ) i).1 i, if μ.1 89 (3 * i) = 0 ∧ (dst 0 j m (μ.1 84) (μ.1 89) (gv2 0 j m (μ.1 84) (μ.1 89) (μ.1 83, q0 μ) i).1 i).2.2.1 ≤ 1 then (gv2 0 j m (μ.1 84) (μ.1 89) (μ.1 83, q0 μ) i).2 + 1 else (gv2 0 j m (μ.1 84) (μ.1 89) (μ.1 83, q0 μ) i).2) := fun _ => rfl
  have g0 : gv2 0 j m (μ.1 84) (μ.1 89) (μ.1 83, q0 μ) 0 = ((μ.1 83, q0 μ), 0) := rfl
  have gok := gv2_ok (A := 0) (l := j) (W := μ.1 84) (L := μ.1 89) (s0 := (μ.1 83, q0 μ)) hR hj hW hI
  generalize gv2 0 j m (μ.1 84) (μ.1 89) (μ.1 83, q0 μ) = G at *
  refine r_aload_n 0 d_M_give_0 rfl rfl ?_
  refine r_iload_n 1 d_M_give_1 rfl rfl ?_
  refine r_callVi (c_M_isLearner hm _ _ hR.1) lk_M_115 (by first | with_reducible assumption | rfl) d_M_give_2 rfl rfl (Nat.le_of_ble_eq_true rfl) (by decide) ?_
  refine r_if_ne d_M_give_5 (fun h5 => ?_) (fun h5 => absurd h5 (bzy (nIb hj hm)))
  refine r_iconst 0 d_M_give_10 rfl ?_
  refine r_istore_n 2 [_, _, _, _, _] d_M_give_11 rfl (by decide) rfl ?_
  refine r_iconst 0 d_M_give_12 rfl ?_
  refine r_istore_n 3 [_, _, _, _, _] d_M_give_13 rfl (by decide) rfl ?_
  refine lpN n (fun i (v : Me × Nat) => ∀ z1 : Value, Wa X m_M_give 8 14 [.ref 82, .int (nI j), .int (nI v.2), .int (nI i), z1] [] v.1 _) (fun i v => v = (dsM μ (G i).1, (G i).2)) ?_ 0 (μ, 0) (Nat.zero_le _) (by rw [g0]; simp only; rw [dsM_0]) _
  intro i v hi hv hk z1
  subst hv
  refine r_iload_n 3 d_M_give_14 rfl rfl ?_
  refine r_aload_n 0 d_M_give_15 rfl rfl ?_
  refine r_getI fl_M_288 (by first | with_reducible assumption | rfl) rfl d_M_give_16 ?_
  rw [dsM_o (by decide) (by decide) (by decide), hln]
  refine r_icmp_ge d_M_give_19 (fun h19 => ?_) (fun h19 => ?_)
  · refine r_iload_n 2 d_M_give_63 rfl rfl ?_
    refine r_iret .int d_M_give_64 rfl rfl ?_
    have hge := n_le h19 rfl rfl (by omega) (by omega)
    obtain rfl : i = n := by omega
    exact ⟨rfl, rfl⟩
  · have hli : i < n := n_lt h19 rfl rfl (by omega) (by omega)
    have hri := gok i hi
    refine r_aload_n 0 d_M_give_22 rfl rfl ?_
    refine r_iload_n 1 d_M_give_23 rfl rfl ?_
    refine r_iload_n 3 d_M_give_24 rfl rfl ?_
    refine r_callVi (c_M_does (A := 0) (by decide) hm hj (show i < 12 by omega) μ _ hat (hI i hli) hri) lk_M_291 (by first | with_reducible assumption | rfl) d_M_give_25 rfl rfl (Nat.le_of_ble_eq_true rfl) (by decide) ?_
    refine r_istore 4 [_, _, _, _, _] d_M_give_28 (by decide) rfl ?_
    refine r_iload_n 2 d_M_give_30 rfl rfl ?_
    refine r_aload_n 0 d_M_give_31 rfl rfl ?_
    refine r_getR fl_M_32 (by first | with_reducible assumption | rfl) rfl d_M_give_32 ?_
    refine r_iconst 3 d_M_give_35 rfl ?_
    refine r_iload_n 3 d_M_give_36 rfl rfl ?_
    refine r_imul d_M_give_37 ?_
    rw [mul3]
    refine r_ialdN (by first | with_reducible assumption | rfl) (show 3 * i < 36 by omega) d_M_give_38 ?_
    rw [dsM_ne (by decide) (by decide)]
    refine r_if_ne d_M_give_39 (fun h39 => ?_) (fun h39 => ?_)
    · refine r_iconst 0 d_M_give_54 rfl ?_
      refine r_iadd d_M_give_55 ?_
      refine r_istore_n 2 [_, _, _, _, _] d_M_give_56 rfl (by decide) rfl ?_
      first | refine r_iincN 3 [_, _, _, _, _] d_M_give_57 (by decide) rfl rfl ?_ | refine r_iinc 3 [_, _, _, _, _] (1) d_M_give_57 (by decide) (by decide) rfl rfl ?_
      refine r_goto d_M_give_60 ?_
      first
        | (have z39 : ¬ μ.1 89 (3 * i) = 0 := h39
           rw [Int32.add_zero]
           refine hk (dsM μ (dst 0 j m (μ.1 84) (μ.1 89) (G i).1 i), (G i).2) hli ?_ _
           rw [gs]
           simp only
           rw [if_neg (fun z => z39 z.1)])
        | (have z39 : μ.1 89 (3 * i) = 0 := h39
           have z47 : (1 : Int32) < _ := h47
           rw [Int32.add_zero]
           refine hk (dsM μ (dst 0 j m (μ.1 84) (μ.1 89) (G i).1 i), (G i).2) hli ?_ _
           rw [gs]
           simp only
           rw [if_neg (fun z => absurd z47 (Int32.not_lt.mpr z.2))])
        | (have z39 : μ.1 89 (3 * i) = 0 := h39
           have z47 : ¬ (1 : Int32) < _ := h47
           rw [← nI_succ]
           refine hk (dsM μ (dst 0 j m (μ.1 84) (μ.1 89) (G i).1 i), (G i).2 + 1) hli ?_ _
           rw [gs]
           simp only
           rw [if_pos ⟨z39, Int32.not_lt.mp z47⟩])
    · refine r_aload_n 0 d_M_give_42 rfl rfl ?_
      refine r_getI fl_M_161 (by first | with_reducible assumption | rfl) rfl d_M_give_43 ?_
      refine r_iconst 1 d_M_give_46 rfl ?_
      rw [dsM_5]
      refine r_icmp_gt d_M_give_47 (fun h47 => ?_) (fun h47 => ?_)
      · refine r_iconst 0 d_M_give_54 rfl ?_
        refine r_iadd d_M_give_55 ?_
        refine r_istore_n 2 [_, _, _, _, _] d_M_give_56 rfl (by decide) rfl ?_
        first | refine r_iincN 3 [_, _, _, _, _] d_M_give_57 (by decide) rfl rfl ?_ | refine r_iinc 3 [_, _, _, _, _] (1) d_M_give_57 (by decide) (by decide) rfl rfl ?_
        refine r_goto d_M_give_60 ?_
        first
          | (have z39 : ¬ μ.1 89 (3 * i) = 0 := h39
             rw [Int32.add_zero]
             refine hk (dsM μ (dst 0 j m (μ.1 84) (μ.1 89) (G i).1 i), (G i).2) hli ?_ _
             rw [gs]
             simp only
             rw [if_neg (fun z => z39 z.1)])
          | (have z39 : μ.1 89 (3 * i) = 0 := h39
             have z47 : (1 : Int32) < _ := h47
             rw [Int32.add_zero]
             refine hk (dsM μ (dst 0 j m (μ.1 84) (μ.1 89) (G i).1 i), (G i).2) hli ?_ _
             rw [gs]
             simp only
             rw [if_neg (fun z => absurd z47 (Int32.not_lt.mpr z.2))])
          | (have z39 : μ.1 89 (3 * i) = 0 := h39
             have z47 : ¬ (1 : Int32) < _ := h47
             rw [← nI_succ]
             refine hk (dsM μ (dst 0 j m (μ.1 84) (μ.1 89) (G i).1 i), (G i).2 + 1) hli ?_ _
             rw [gs]
             simp only
             rw [if_pos ⟨z39, Int32.not_lt.mp z47⟩])
      · refine r_iconst 1 d_M_give_50 rfl ?_
        refine r_goto d_M_give_51 ?_
        refine r_iadd d_M_give_55 ?_
        refine r_istore_n 2 [_, _, _, _, _] d_M_give_56 rfl (by decide) rfl ?_
        first | refine r_iincN 3 [_, _, _, _, _] d_M_give_57 (by decide) rfl rfl ?_ | refine r_iinc 3 [_, _, _, _, _] (1) d_M_give_57 (by decide) (by decide) rfl rfl ?_
        refine r_goto d_M_give_60 ?_
        first
          | (have z39 : ¬ μ.1 89 (3 * i) = 0 := h39
             rw [Int32.add_zero]
             refine hk (dsM μ (dst 0 j m (μ.1 84) (μ.1 89) (G i).1 i), (G i).2) hli ?_ _
             rw [gs]
             simp only
             rw [if_neg (fun z => z39 z.1)])
          | (have z39 : μ.1 89 (3 * i) = 0 := h39
             have z47 : (1 : Int32) < _ := h47
             rw [Int32.add_zero]
             refine hk (dsM μ (dst 0 j m (μ.1 84) (μ.1 89) (G i).1 i), (G i).2) hli ?_ _
             rw [gs]
             simp only
             rw [if_neg (fun z => absurd z47 (Int32.not_lt.mpr z.2))])
          | (have z39 : μ.1 89 (3 * i) = 0 := h39
             have z47 : ¬ (1 : Int32) < _ := h47
             rw [← nI_succ]
             refine hk (dsM μ (dst 0 j m (μ.1 84) (μ.1 89) (G i).1 i), (G i).2 + 1) hli ?_ _
             rw [gs]
             simp only
             rw [if_pos ⟨z39, Int32.not_lt.mp z47⟩])
