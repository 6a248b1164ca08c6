/-! the reference: what to tell first -/
def OKW (v : Int32 × Int32) : Prop := (0 ≤ v.1 ∧ v.1 ≤ 200) ∧ 0 ≤ v.2
theorem ofr_ok {v : Int32 × Int32} {p : Nat} {b : Int32} (h : OKW v) (hp : p < 36) (hb : 0 ≤ b ∧ b ≤ 200) : OKW (ofr v (nI p) b) := by
  unfold ofr
  split
  · exact ⟨hb, nI_pos' (by omega)⟩
  · exact h
theorem ofr_first {p : Nat} {b x : Int32} (hb : 0 ≤ b ∧ b ≤ 200) : ofr (-1, x) (nI p) b = (b, nI p) := by
  unfold ofr
  rw [if_pos (show (-1 : Int32) < b by grind)]
theorem ofr_ge {v : Int32 × Int32} {p b : Int32} : v.1 ≤ (ofr v p b).1 ∧ b ≤ (ofr v p b).1 := by
  unfold ofr
  split
  · rename_i h; exact ⟨Int32.le_of_lt h, Int32.le_refl _⟩
  · rename_i h; exact ⟨Int32.le_refl _, Int32.not_lt.mp h⟩
theorem inF_ok {G : Nat → Int32} {p : Nat} (hp : p < 36) (hG : ∀ q, q < 36 → 0 ≤ G q ∧ G q ≤ 100) {v : Int32 × Int32} (h : OKW v) : ∀ k, k ≤ 35 - p → OKW (inF G p v k)
  | 0, _ => h
  | k + 1, hk => by
    rw [inF]
    have h1 := hG p hp
    have h2 := hG (p + 1 + k) (by omega)
    exact ofr_ok (inF_ok hp hG h k (by omega)) hp (by grind)
theorem inF_ge {G : Nat → Int32} {p : Nat} {v : Int32 × Int32} : ∀ k, v.1 ≤ (inF G p v k).1 ∧ ∀ i, i < k → G p + G (p + 1 + i) ≤ (inF G p v k).1
  | 0 => ⟨Int32.le_refl _, fun i hi => absurd hi (Nat.not_lt_zero _)⟩
  | k + 1 => by
    have ih := inF_ge (G := G) (p := p) (v := v) k
    rw [inF]
    refine ⟨Int32.le_trans ih.1 ofr_ge.1, fun i hi => ?_⟩
    rcases Nat.lt_or_ge i k with z | z
    · exact Int32.le_trans (ih.2 i z) ofr_ge.1
    · rw [show i = k by omega]; exact ofr_ge.2
theorem o1_ok {G : Nat → Int32} {x : Int32} (hG : ∀ q, q < 36 → 0 ≤ G q ∧ G q ≤ 100) : ∀ p, p < 36 → OKW (o1F G (-1, x) (p + 1))
  | 0, _ => by
    rw [o1F, o1F, ofr_first (by have := hG 0 (by omega); grind)]
    have := hG 0 (by omega)
    exact ⟨by grind, show (0 : Int32) ≤ nI 0 by decide⟩
  | p + 1, hp => by
    rw [o1F]
    exact ofr_ok (o1_ok hG p (by omega)) hp (by have := hG (p + 1) hp; grind)
theorem o2_ok {G T : Nat → Int32} {x : Int32} (hG : ∀ q, q < 36 → 0 ≤ G q ∧ G q ≤ 100) (hT : ∀ q, q < 36 → 0 ≤ T q ∧ T q ≤ 100) : ∀ p, p < 36 → OKW (o2F G T (-1, x) (p + 1))
  | 0, _ => by
    have h0 := hT 0 (by omega)
    rw [o2F, o2F, ofr_first (by grind)]
    exact inF_ok (by decide) hG ⟨by grind, show (0 : Int32) ≤ nI 0 by decide⟩ _ (Nat.le_refl _)
  | p + 1, hp => by
    rw [o2F]
    have h0 := hT (p + 1) hp
    exact inF_ok hp hG (ofr_ok (o2_ok hG hT p (by omega)) hp (by grind)) _ (Nat.le_refl _)
theorem o2_dom {G T : Nat → Int32} {w : Int32 × Int32} : ∀ (P q r : Nat), q < P → q < r → r < 36 → G q + G r ≤ (o2F G T w P).1
  | 0, q, r, h, _, _ => absurd h (Nat.not_lt_zero _)
  | P + 1, q, r, h, h1, h2 => by
    rw [o2F]
    rcases Nat.lt_or_ge q P with z | z
    · exact Int32.le_trans (Int32.le_trans (o2_dom P q r z h1 h2) ofr_ge.1) (inF_ge _).1
    · obtain rfl : q = P := by omega
      have := (inF_ge (G := G) (p := q) (v := ofr (o2F G T w q) (nI q) (T q)) (35 - q)).2 (r - q - 1) (by omega)
      rw [show q + 1 + (r - q - 1) = r by omega] at this
      exact this
theorem lt_U {U a b : Int32} (hU : 0 ≤ U ∧ U ≤ 3600) (ha : 0 ≤ a ∧ a ≤ 200) (hb : 0 ≤ b ∧ b ≤ 200) : U + b ≤ U + a ↔ ¬ a < b := by grind
def bx (U : Int32) (v : Int32 × Int32) (w : Int32) : Int32 := if w = 0 then U + v.1 else v.2
set_option maxHeartbeats 400000 in
theorem c_M_best_1 (X : Nat × (Nat → Int32)) (l nd w U x : Int32) (B : Nat → Nat → Int32) (G : Nat → Int32) (ν : Me) (hν : ∀ p, p < 36 → ∀ k, k < 3 → ν.1 86 (3 * p + k) = B p k) (hG : ∀ p, p < 36 → G p = B p 1 - B p 0) (hGr : ∀ p, p < 36 → 0 ≤ G p ∧ G p ≤ 100) (hU : 0 ≤ U ∧ U ≤ 3600) : ∀ (p : Nat) (v : Int32 × Int32), p ≤ 36 → ((p = 0 ∧ v = (0, -1)) ∨ (0 < p ∧ v = (U + (o1F G (-1, x) p).1, (o1F G (-1, x) p).2))) → ∀ z9 z10 z11 : Value, Wa X m_M_best 3 85 [.ref 82, .int l, .int (nI 1), .int nd, .int w, .int U, .int v.2, .int v.1, .int (nI p), z9, z10, z11] [] ν (fun r μ' => r = some (.int (bx U (o1F G (-1, x) 36) w)) ∧ μ' = ν) := by
  refine lpN 36 _ _ ?_
  intro p v hp hv hk z9 z10 z11
  refine r_iload 8 d_M_best_85 rfl ?_
  refine r_bipush (36) d_M_best_87 (by decide) ?_
  refine r_icmp_ge d_M_best_89 (fun h89 => ?_) (fun h89 => ?_)
  · refine r_iload 4 d_M_best_239 rfl ?_
    refine r_if_ne d_M_best_241 (fun h241 => ?_) (fun h241 => ?_)
    · refine r_iload 6 d_M_best_249 rfl ?_
      refine r_iret .int d_M_best_251 rfl rfl ?_
      have hge := n_le (a := 36) h89 rfl rfl (by decide) (by omega)
      obtain rfl : p = 36 := by omega
      rcases hv with ⟨z, -⟩ | ⟨-, rfl⟩
      · exact absurd z (by decide)
      · refine ⟨?_, rfl⟩
        first
          | rw [bx, if_pos h241]
          | rw [bx, if_neg h241]
    · refine r_iload 7 d_M_best_244 rfl ?_
      refine r_goto d_M_best_246 ?_
      refine r_iret .int d_M_best_251 rfl rfl ?_
      have hge := n_le (a := 36) h89 rfl rfl (by decide) (by omega)
      obtain rfl : p = 36 := by omega
      rcases hv with ⟨z, -⟩ | ⟨-, rfl⟩
      · exact absurd z (by decide)
      · refine ⟨?_, rfl⟩
        first
          | rw [bx, if_pos h241]
          | rw [bx, if_neg h241]
  · have hlp : p < 36 := n_lt (a := 36) h89 rfl rfl (by decide) (by omega)
    refine r_iload 5 d_M_best_92 rfl ?_
    refine r_aload_n 0 d_M_best_94 rfl rfl ?_
    refine r_getR fl_M_23 (by first | with_reducible assumption | rfl) rfl d_M_best_95 ?_
    refine r_iconst 3 d_M_best_98 rfl ?_
    refine r_iload 8 d_M_best_99 rfl ?_
    refine r_imul d_M_best_101 ?_
    rw [mul3]
    refine r_ialdN (by first | with_reducible assumption | rfl) (show 3 * p < 108 by omega) d_M_best_102 ?_
    rw [show 3 * p = 3 * p + 0 from rfl, hν p hlp 0 (by decide)]
    refine r_isub d_M_best_103 ?_
    refine r_aload_n 0 d_M_best_104 rfl rfl ?_
    refine r_getR fl_M_23 (by first | with_reducible assumption | rfl) rfl d_M_best_105 ?_
    refine r_iconst 3 d_M_best_108 rfl ?_
    refine r_iload 8 d_M_best_109 rfl ?_
    refine r_imul d_M_best_111 ?_
    refine r_iconst 1 d_M_best_112 rfl ?_
    refine r_iadd d_M_best_113 ?_
    rw [mul3, ← nI_succ]
    refine r_ialdN (by first | with_reducible assumption | rfl) (show 3 * p + 1 < 108 by omega) d_M_best_114 ?_
    rw [hν p hlp 1 (by decide)]
    refine r_iadd d_M_best_115 ?_
    rw [show U - B p 0 + B p 1 = U + G p by rw [hG p hlp]; grind]
    refine r_istore 9 [_, _, _, _, _, _, _, _, _, _, _, _] d_M_best_116 (by decide) rfl ?_
    refine r_iconst 0 d_M_best_118 rfl ?_
    refine r_istore 10 [_, _, _, _, _, _, _, _, _, _, _, _] d_M_best_119 (by decide) rfl ?_
    refine r_iload 10 d_M_best_121 rfl ?_
    refine r_iload_n 2 d_M_best_123 rfl rfl ?_
    refine r_iconst 1 d_M_best_124 rfl ?_
    refine r_icmp_ne d_M_best_125 (fun h125 => absurd rfl h125) (fun h125 => ?_)
    refine r_iconst 1 d_M_best_128 rfl ?_
    refine r_goto d_M_best_129 ?_
    refine r_icmp_ge d_M_best_134 (fun h134 => absurd h134 (by decide)) (fun h134 => ?_)
    refine r_iload_n 2 d_M_best_137 rfl rfl ?_
    refine r_iconst 1 d_M_best_138 rfl ?_
    refine r_icmp_ne d_M_best_139 (fun h139 => absurd rfl h139) (fun h139 => ?_)
    refine r_iload 9 d_M_best_142 rfl ?_
    refine r_goto d_M_best_144 ?_
    refine r_istore 11 [_, _, _, _, _, _, _, _, _, _, _, _] d_M_best_205 (by decide) rfl ?_
    have gp := hGr p hlp
    rcases hv with ⟨rfl, rfl⟩ | ⟨h0, rfl⟩
    · refine r_iload 6 d_M_best_207 rfl ?_
      refine r_if_lt d_M_best_209 (fun h209 => ?_) (fun h209 => absurd (by decide) h209)
      refine r_iload 8 d_M_best_219 rfl ?_
      refine r_istore 6 [_, _, _, _, _, _, _, _, _, _, _, _] d_M_best_221 (by decide) rfl ?_
      refine r_iload 11 d_M_best_223 rfl ?_
      refine r_istore 7 [_, _, _, _, _, _, _, _, _, _, _, _] d_M_best_225 (by decide) rfl ?_
      first | refine r_iincN 10 [_, _, _, _, _, _, _, _, _, _, _, _] d_M_best_227 (by decide) rfl rfl ?_ | refine r_iinc 10 [_, _, _, _, _, _, _, _, _, _, _, _] (1) d_M_best_227 (by decide) (by decide) rfl rfl ?_
      refine r_goto d_M_best_230 ?_
      refine r_iload 10 d_M_best_121 rfl ?_
      refine r_iload_n 2 d_M_best_123 rfl rfl ?_
      refine r_iconst 1 d_M_best_124 rfl ?_
      refine r_icmp_ne d_M_best_125 (fun h125 => absurd rfl h125) (fun h125 => ?_)
      refine r_iconst 1 d_M_best_128 rfl ?_
      refine r_goto d_M_best_129 ?_
      refine r_icmp_ge d_M_best_134 (fun h134 => ?_) (fun h134 => absurd (by decide) h134)
      first | refine r_iincN 8 [_, _, _, _, _, _, _, _, _, _, _, _] d_M_best_233 (by decide) rfl rfl ?_ | refine r_iinc 8 [_, _, _, _, _, _, _, _, _, _, _, _] (1) d_M_best_233 (by decide) (by decide) rfl rfl ?_
      refine r_goto d_M_best_236 ?_
      refine hk (U + G 0, nI 0) hlp (Or.inr ⟨by omega, ?_⟩) _ _ _
      rw [o1F, o1F, ofr_first (by grind)]
    · have ok := o1_ok (x := x) hGr (p - 1) (by omega)
      rw [show p - 1 + 1 = p by omega] at ok
      have lu := lt_U hU ok.1 (b := G p) (by grind)
      refine r_iload 6 d_M_best_207 rfl ?_
      refine r_if_lt d_M_best_209 (fun h209 => absurd h209 (Int32.not_lt.mpr ok.2)) (fun h209 => ?_)
      refine r_iload 11 d_M_best_212 rfl ?_
      refine r_iload 7 d_M_best_214 rfl ?_
      refine r_icmp_le d_M_best_216 (fun h216 => ?_) (fun h216 => ?_)
      · first | refine r_iincN 10 [_, _, _, _, _, _, _, _, _, _, _, _] d_M_best_227 (by decide) rfl rfl ?_ | refine r_iinc 10 [_, _, _, _, _, _, _, _, _, _, _, _] (1) d_M_best_227 (by decide) (by decide) rfl rfl ?_
        refine r_goto d_M_best_230 ?_
        refine r_iload 10 d_M_best_121 rfl ?_
        refine r_iload_n 2 d_M_best_123 rfl rfl ?_
        refine r_iconst 1 d_M_best_124 rfl ?_
        refine r_icmp_ne d_M_best_125 (fun h125 => absurd rfl h125) (fun h125 => ?_)
        refine r_iconst 1 d_M_best_128 rfl ?_
        refine r_goto d_M_best_129 ?_
        refine r_icmp_ge d_M_best_134 (fun h134 => ?_) (fun h134 => absurd (by decide) h134)
        first | refine r_iincN 8 [_, _, _, _, _, _, _, _, _, _, _, _] d_M_best_233 (by decide) rfl rfl ?_ | refine r_iinc 8 [_, _, _, _, _, _, _, _, _, _, _, _] (1) d_M_best_233 (by decide) (by decide) rfl rfl ?_
        refine r_goto d_M_best_236 ?_
        first
          | (have z := lu.mp h216
             refine hk (U + (o1F G (-1, x) p).1, (o1F G (-1, x) p).2) hlp (Or.inr ⟨by omega, ?_⟩) _ _ _
             rw [o1F, ofr, if_neg z])
          | (have z := Classical.not_not.mp (mt lu.mpr h216)
             refine hk (U + G p, nI p) hlp (Or.inr ⟨by omega, ?_⟩) _ _ _
             rw [o1F, ofr, if_pos z])
      · refine r_iload 8 d_M_best_219 rfl ?_
        refine r_istore 6 [_, _, _, _, _, _, _, _, _, _, _, _] d_M_best_221 (by decide) rfl ?_
        refine r_iload 11 d_M_best_223 rfl ?_
        refine r_istore 7 [_, _, _, _, _, _, _, _, _, _, _, _] d_M_best_225 (by decide) rfl ?_
        first | refine r_iincN 10 [_, _, _, _, _, _, _, _, _, _, _, _] d_M_best_227 (by decide) rfl rfl ?_ | refine r_iinc 10 [_, _, _, _, _, _, _, _, _, _, _, _] (1) d_M_best_227 (by decide) (by decide) rfl rfl ?_
        refine r_goto d_M_best_230 ?_
        refine r_iload 10 d_M_best_121 rfl ?_
        refine r_iload_n 2 d_M_best_123 rfl rfl ?_
        refine r_iconst 1 d_M_best_124 rfl ?_
        refine r_icmp_ne d_M_best_125 (fun h125 => absurd rfl h125) (fun h125 => ?_)
        refine r_iconst 1 d_M_best_128 rfl ?_
        refine r_goto d_M_best_129 ?_
        refine r_icmp_ge d_M_best_134 (fun h134 => ?_) (fun h134 => absurd (by decide) h134)
        first | refine r_iincN 8 [_, _, _, _, _, _, _, _, _, _, _, _] d_M_best_233 (by decide) rfl rfl ?_ | refine r_iinc 8 [_, _, _, _, _, _, _, _, _, _, _, _] (1) d_M_best_233 (by decide) (by decide) rfl rfl ?_
        refine r_goto d_M_best_236 ?_
        first
          | (have z := lu.mp h216
             refine hk (U + (o1F G (-1, x) p).1, (o1F G (-1, x) p).2) hlp (Or.inr ⟨by omega, ?_⟩) _ _ _
             rw [o1F, ofr, if_neg z])
          | (have z := Classical.not_not.mp (mt lu.mpr h216)
             refine hk (U + G p, nI p) hlp (Or.inr ⟨by omega, ?_⟩) _ _ _
             rw [o1F, ofr, if_pos z])
/-- the inner loop's state -/
def v2 (G T : Nat → Int32) (x : Int32) (p q : Nat) : Int32 × Int32 := if q ≤ p then o2F G T (-1, x) p else inF G p (ofr (o2F G T (-1, x) p) (nI p) (T p)) (q - p - 1)
theorem v2_ok {G T : Nat → Int32} {x : Int32} {p q : Nat} (hp : p < 36) (hq : q ≤ 36) (hG : ∀ q, q < 36 → 0 ≤ G q ∧ G q ≤ 100) (hT : ∀ q, q < 36 → 0 ≤ T q ∧ T q ≤ 100) (h : 0 < p + q) : OKW (v2 G T x p q) := by
  have ht := hT p hp
  have oko : 0 < p → OKW (o2F G T (-1, x) p) := fun z => by
    have := o2_ok (x := x) hG hT (p - 1) (by omega)
    rw [show p - 1 + 1 = p by omega] at this
    exact this
  unfold v2
  split
  · exact oko (by omega)
  · refine inF_ok hp hG ?_ _ (by omega)
    rcases Nat.eq_zero_or_pos p with z | z
    · subst z
      rw [o2F, ofr_first (by grind)]
      exact ⟨by grind, show (0 : Int32) ≤ nI 0 by decide⟩
    · exact ofr_ok (oko z) hp (by grind)
theorem v2_36 {G T : Nat → Int32} {x : Int32} {p : Nat} (hp : p < 36) : v2 G T x p 36 = o2F G T (-1, x) (p + 1) := by
  rw [v2, if_neg (by omega), o2F, show 36 - p - 1 = 35 - p by omega]
theorem v2_0 {G T : Nat → Int32} {x : Int32} {p : Nat} : v2 G T x p 0 = o2F G T (-1, x) p := by rw [v2, if_pos (Nat.zero_le _)]
/-- what the pair (p, q) gives beyond U -/
def gn (G T : Nat → Int32) (p q : Nat) : Int32 := if p = q then T p else G p + G q
theorem gn_r {G T : Nat → Int32} {p q : Nat} (hp : p < 36) (hq : q < 36) (hG : ∀ q, q < 36 → 0 ≤ G q ∧ G q ≤ 100) (hT : ∀ q, q < 36 → 0 ≤ T q ∧ T q ≤ 100) : 0 ≤ gn G T p q ∧ gn G T p q ≤ 200 := by
  have h1 := hG p hp
  have h2 := hG q hq
  have h3 := hT p hp
  unfold gn
  split <;> grind
theorem v2_s {G T : Nat → Int32} {x : Int32} {p q : Nat} (hp : p < 36) (hq : q < 36) : v2 G T x p (q + 1) = ofr (v2 G T x p q) (nI p) (gn G T p q) := by
  rcases Nat.lt_trichotomy q p with z | z | z
  · have hd := o2_dom (G := G) (T := T) (w := (-1, x)) p q p z z hp
    rw [v2, if_pos (by omega), v2, if_pos (by omega), gn, if_neg (by omega), ofr, if_neg]
    rw [Int32.add_comm]
    exact Int32.not_lt.mpr hd
  · subst z
    rw [v2, if_neg (by omega), v2, if_pos (Nat.le_refl _), gn, if_pos rfl, show q + 1 - q - 1 = 0 by omega, inF]
  · rw [v2, if_neg (by omega), v2, if_neg (by omega), gn, if_neg (by omega), show q + 1 - p - 1 = (q - p - 1) + 1 by omega, inF, show p + 1 + (q - p - 1) = q by omega]
set_option maxHeartbeats 400000 in
theorem c_M_best_2 (X : Nat × (Nat → Int32)) (l nd w U x : Int32) (B : Nat → Nat → Int32) (G T : Nat → Int32) (ν : Me) (hν : ∀ p, p < 36 → ∀ k, k < 3 → ν.1 86 (3 * p + k) = B p k) (hG : ∀ p, p < 36 → G p = B p 1 - B p 0) (hGr : ∀ p, p < 36 → 0 ≤ G p ∧ G p ≤ 100) (hT : ∀ p, p < 36 → T p = B p 2 - B p 0) (hTr : ∀ p, p < 36 → 0 ≤ T p ∧ T p ≤ 100) (hU : 0 ≤ U ∧ U ≤ 3600) : ∀ (p : Nat) (v : Int32 × Int32), p ≤ 36 → ((p = 0 ∧ v = (0, -1)) ∨ (0 < p ∧ v = (U + (o2F G T (-1, x) p).1, (o2F G T (-1, x) p).2))) → ∀ z9 z10 z11 : Value, Wa X m_M_best 3 85 [.ref 82, .int l, .int (nI 2), .int nd, .int w, .int U, .int v.2, .int v.1, .int (nI p), z9, z10, z11] [] ν (fun r μ' => r = some (.int (bx U (o2F G T (-1, x) 36) w)) ∧ μ' = ν) := by
  refine lpN 36 _ _ ?_
  intro p v hp hv hk z9 z10 z11
  refine r_iload 8 d_M_best_85 rfl ?_
  refine r_bipush (36) d_M_best_87 (by decide) ?_
  refine r_icmp_ge d_M_best_89 (fun h89 => ?_) (fun h89 => ?_)
  · refine r_iload 4 d_M_best_239 rfl ?_
    refine r_if_ne d_M_best_241 (fun h241 => ?_) (fun h241 => ?_)
    · refine r_iload 6 d_M_best_249 rfl ?_
      refine r_iret .int d_M_best_251 rfl rfl ?_
      have hge := n_le (a := 36) h89 rfl rfl (by decide) (by omega)
      obtain rfl : p = 36 := by omega
      rcases hv with ⟨z, -⟩ | ⟨-, rfl⟩
      · exact absurd z (by decide)
      · refine ⟨?_, rfl⟩
        first
          | rw [bx, if_pos h241]
          | rw [bx, if_neg h241]
    · refine r_iload 7 d_M_best_244 rfl ?_
      refine r_goto d_M_best_246 ?_
      refine r_iret .int d_M_best_251 rfl rfl ?_
      have hge := n_le (a := 36) h89 rfl rfl (by decide) (by omega)
      obtain rfl : p = 36 := by omega
      rcases hv with ⟨z, -⟩ | ⟨-, rfl⟩
      · exact absurd z (by decide)
      · refine ⟨?_, rfl⟩
        first
          | rw [bx, if_pos h241]
          | rw [bx, if_neg h241]
  · have hlp : p < 36 := n_lt (a := 36) h89 rfl rfl (by decide) (by omega)
    refine r_iload 5 d_M_best_92 rfl ?_
    refine r_aload_n 0 d_M_best_94 rfl rfl ?_
    refine r_getR fl_M_23 (by first | with_reducible assumption | rfl) rfl d_M_best_95 ?_
    refine r_iconst 3 d_M_best_98 rfl ?_
    refine r_iload 8 d_M_best_99 rfl ?_
    refine r_imul d_M_best_101 ?_
    rw [mul3]
    refine r_ialdN (by first | with_reducible assumption | rfl) (show 3 * p < 108 by omega) d_M_best_102 ?_
    rw [show 3 * p = 3 * p + 0 from rfl, hν p hlp 0 (by decide)]
    refine r_isub d_M_best_103 ?_
    refine r_aload_n 0 d_M_best_104 rfl rfl ?_
    refine r_getR fl_M_23 (by first | with_reducible assumption | rfl) rfl d_M_best_105 ?_
    refine r_iconst 3 d_M_best_108 rfl ?_
    refine r_iload 8 d_M_best_109 rfl ?_
    refine r_imul d_M_best_111 ?_
    refine r_iconst 1 d_M_best_112 rfl ?_
    refine r_iadd d_M_best_113 ?_
    rw [mul3, ← nI_succ]
    refine r_ialdN (by first | with_reducible assumption | rfl) (show 3 * p + 1 < 108 by omega) d_M_best_114 ?_
    rw [hν p hlp 1 (by decide)]
    refine r_iadd d_M_best_115 ?_
    rw [show U - B p 0 + B p 1 = U + G p by rw [hG p hlp]; grind]
    refine r_istore 9 [_, _, _, _, _, _, _, _, _, _, _, _] d_M_best_116 (by decide) rfl ?_
    refine r_iconst 0 d_M_best_118 rfl ?_
    refine r_istore 10 [_, _, _, _, _, _, _, _, _, _, _, _] d_M_best_119 (by decide) rfl ?_
    have lp := lpN 36 (fun q (y : Int32 × Int32) => ∀ z11 : Value, Wa X m_M_best 3 121 [.ref 82, .int l, .int (nI 2), .int nd, .int w, .int U, .int y.2, .int y.1, .int (nI p), .int (U + G p), .int (nI q), z11] [] ν (fun r μ' => r = some (.int (bx U (o2F G T (-1, x) 36) w)) ∧ μ' = ν)) (fun q y => (p + q = 0 ∧ y = (0, -1)) ∨ (0 < p + q ∧ y = (U + (v2 G T x p q).1, (v2 G T x p q).2))) ?_ 0 v (Nat.zero_le _) ?_
    · exact lp _
    · intro q y hq hy hkk z11
      refine r_iload 10 d_M_best_121 rfl ?_
      refine r_iload_n 2 d_M_best_123 rfl rfl ?_
      refine r_iconst 1 d_M_best_124 rfl ?_
      refine r_icmp_ne d_M_best_125 (fun h125 => ?_) (fun h125 => absurd h125 (by decide))
      refine r_bipush (36) d_M_best_132 (by decide) ?_
      refine r_icmp_ge d_M_best_134 (fun h134 => ?_) (fun h134 => ?_)
      · have hge := n_le (a := 36) h134 rfl rfl (by decide) (by omega)
        obtain rfl : q = 36 := by omega
        rcases hy with ⟨h0, -⟩ | ⟨h0, rfl⟩
        · exact absurd h0 (by omega)
        · rw [v2_36 hlp] at *
          first | refine r_iincN 8 [_, _, _, _, _, _, _, _, _, _, _, _] d_M_best_233 (by decide) rfl rfl ?_ | refine r_iinc 8 [_, _, _, _, _, _, _, _, _, _, _, _] (1) d_M_best_233 (by decide) (by decide) rfl rfl ?_
          refine r_goto d_M_best_236 ?_
          exact hk (U + (o2F G T (-1, x) (p + 1)).1, (o2F G T (-1, x) (p + 1)).2) hlp (Or.inr ⟨by omega, rfl⟩) _ _ _
      · have hlq : q < 36 := n_lt (a := 36) h134 rfl rfl (by decide) (by omega)
        refine r_iload_n 2 d_M_best_137 rfl rfl ?_
        refine r_iconst 1 d_M_best_138 rfl ?_
        refine r_icmp_ne d_M_best_139 (fun h139 => ?_) (fun h139 => absurd h139 (by decide))
        refine r_iload 8 d_M_best_147 rfl ?_
        refine r_iload 10 d_M_best_149 rfl ?_
        refine r_icmp_ne d_M_best_151 (fun h151 => ?_) (fun h151 => ?_)
        · refine r_iload 9 d_M_best_181 rfl ?_
          refine r_aload_n 0 d_M_best_183 rfl rfl ?_
          refine r_getR fl_M_23 (by first | with_reducible assumption | rfl) rfl d_M_best_184 ?_
          refine r_iconst 3 d_M_best_187 rfl ?_
          refine r_iload 10 d_M_best_188 rfl ?_
          refine r_imul d_M_best_190 ?_
          rw [mul3]
          refine r_ialdN (by first | with_reducible assumption | rfl) (show 3 * q < 108 by omega) d_M_best_191 ?_
          rw [show 3 * q = 3 * q + 0 from rfl, hν q hlq 0 (by decide)]
          refine r_isub d_M_best_192 ?_
          refine r_aload_n 0 d_M_best_193 rfl rfl ?_
          refine r_getR fl_M_23 (by first | with_reducible assumption | rfl) rfl d_M_best_194 ?_
          refine r_iconst 3 d_M_best_197 rfl ?_
          refine r_iload 10 d_M_best_198 rfl ?_
          refine r_imul d_M_best_200 ?_
          refine r_iconst 1 d_M_best_201 rfl ?_
          refine r_iadd d_M_best_202 ?_
          rw [mul3, ← nI_succ]
          refine r_ialdN (by first | with_reducible assumption | rfl) (show 3 * q + 1 < 108 by omega) d_M_best_203 ?_
          rw [hν q hlq 1 (by decide)]
          refine r_iadd d_M_best_204 ?_
          have sm : Wa X m_M_best 3 205 [.ref 82, .int l, .int (nI 2), .int nd, .int w, .int U, .int y.2, .int y.1, .int (nI p), .int (U + G p), .int (nI q), z11] [.int (U + gn G T p q)] ν (fun r μ' => r = some (.int (bx U (o2F G T (-1, x) 36) w)) ∧ μ' = ν) := by
            have gr := gn_r hlp hlq hGr hTr
            rcases hy with ⟨h0, rfl⟩ | ⟨h0, rfl⟩
            · obtain rfl : p = 0 := by omega
              obtain rfl : q = 0 := by omega
              refine r_istore 11 [_, _, _, _, _, _, _, _, _, _, _, _] d_M_best_205 (by decide) rfl ?_
              refine r_iload 6 d_M_best_207 rfl ?_
              refine r_if_lt d_M_best_209 (fun h209 => ?_) (fun h209 => absurd (by decide) h209)
              refine r_iload 8 d_M_best_219 rfl ?_
              refine r_istore 6 [_, _, _, _, _, _, _, _, _, _, _, _] d_M_best_221 (by decide) rfl ?_
              refine r_iload 11 d_M_best_223 rfl ?_
              refine r_istore 7 [_, _, _, _, _, _, _, _, _, _, _, _] d_M_best_225 (by decide) rfl ?_
              first | refine r_iincN 10 [_, _, _, _, _, _, _, _, _, _, _, _] d_M_best_227 (by decide) rfl rfl ?_ | refine r_iinc 10 [_, _, _, _, _, _, _, _, _, _, _, _] (1) d_M_best_227 (by decide) (by decide) rfl rfl ?_
              refine r_goto d_M_best_230 ?_
              refine hkk (U + gn G T 0 0, nI 0) hlq (Or.inr ⟨by omega, ?_⟩) _
              rw [v2_s hlp hlq, v2_0, o2F, ofr_first gr]
            · have ok := v2_ok (x := x) hlp hq hGr hTr h0
              have lu := lt_U hU ok.1 gr
              refine r_istore 11 [_, _, _, _, _, _, _, _, _, _, _, _] d_M_best_205 (by decide) rfl ?_
              refine r_iload 6 d_M_best_207 rfl ?_
              refine r_if_lt d_M_best_209 (fun h209 => absurd h209 (Int32.not_lt.mpr ok.2)) (fun h209 => ?_)
              refine r_iload 11 d_M_best_212 rfl ?_
              refine r_iload 7 d_M_best_214 rfl ?_
              refine r_icmp_le d_M_best_216 (fun h216 => ?_) (fun h216 => ?_)
              · first | refine r_iincN 10 [_, _, _, _, _, _, _, _, _, _, _, _] d_M_best_227 (by decide) rfl rfl ?_ | refine r_iinc 10 [_, _, _, _, _, _, _, _, _, _, _, _] (1) d_M_best_227 (by decide) (by decide) rfl rfl ?_
                refine r_goto d_M_best_230 ?_
                first
                  | (have z := lu.mp h216
                     refine hkk (U + (v2 G T x p q).1, (v2 G T x p q).2) hlq (Or.inr ⟨by omega, ?_⟩) _
                     rw [v2_s hlp hlq, ofr, if_neg z])
                  | (have z := Classical.not_not.mp (mt lu.mpr h216)
                     refine hkk (U + gn G T p q, nI p) hlq (Or.inr ⟨by omega, ?_⟩) _
                     rw [v2_s hlp hlq, ofr, if_pos z])
              · refine r_iload 8 d_M_best_219 rfl ?_
                refine r_istore 6 [_, _, _, _, _, _, _, _, _, _, _, _] d_M_best_221 (by decide) rfl ?_
                refine r_iload 11 d_M_best_223 rfl ?_
                refine r_istore 7 [_, _, _, _, _, _, _, _, _, _, _, _] d_M_best_225 (by decide) rfl ?_
                first | refine r_iincN 10 [_, _, _, _, _, _, _, _, _, _, _, _] d_M_best_227 (by decide) rfl rfl ?_ | refine r_iinc 10 [_, _, _, _, _, _, _, _, _, _, _, _] (1) d_M_best_227 (by decide) (by decide) rfl rfl ?_
                refine r_goto d_M_best_230 ?_
                first
                  | (have z := lu.mp h216
                     refine hkk (U + (v2 G T x p q).1, (v2 G T x p q).2) hlq (Or.inr ⟨by omega, ?_⟩) _
                     rw [v2_s hlp hlq, ofr, if_neg z])
                  | (have z := Classical.not_not.mp (mt lu.mpr h216)
                     refine hkk (U + gn G T p q, nI p) hlq (Or.inr ⟨by omega, ?_⟩) _
                     rw [v2_s hlp hlq, ofr, if_pos z])
          first
            | (have z151 : nI p = nI q := h151
               have e151 : p = q := (nI_eq (by omega) (by omega)).mp z151
               rw [gn, if_pos e151, hT p hlp] at sm
               exact Wa.eqI (by grind) sm)
            | (have z151 : ¬ nI p = nI q := h151
               have e151 : ¬ p = q := fun z => z151 (by rw [z])
               rw [gn, if_neg e151, hG q hlq] at sm
               exact Wa.eqI (by grind) sm)
        · refine r_iload 5 d_M_best_154 rfl ?_
          refine r_aload_n 0 d_M_best_156 rfl rfl ?_
          refine r_getR fl_M_23 (by first | with_reducible assumption | rfl) rfl d_M_best_157 ?_
          refine r_iconst 3 d_M_best_160 rfl ?_
          refine r_iload 8 d_M_best_161 rfl ?_
          refine r_imul d_M_best_163 ?_
          rw [mul3]
          refine r_ialdN (by first | with_reducible assumption | rfl) (show 3 * p < 108 by omega) d_M_best_164 ?_
          rw [show 3 * p = 3 * p + 0 from rfl, hν p hlp 0 (by decide)]
          refine r_isub d_M_best_165 ?_
          refine r_aload_n 0 d_M_best_166 rfl rfl ?_
          refine r_getR fl_M_23 (by first | with_reducible assumption | rfl) rfl d_M_best_167 ?_
          refine r_iconst 3 d_M_best_170 rfl ?_
          refine r_iload 8 d_M_best_171 rfl ?_
          refine r_imul d_M_best_173 ?_
          refine r_iconst 2 d_M_best_174 rfl ?_
          refine r_iadd d_M_best_175 ?_
          rw [mul3, add2]
          refine r_ialdN (by first | with_reducible assumption | rfl) (show 3 * p + 2 < 108 by omega) d_M_best_176 ?_
          rw [hν p hlp 2 (by decide)]
          refine r_iadd d_M_best_177 ?_
          refine r_goto d_M_best_178 ?_
          have sm : Wa X m_M_best 3 205 [.ref 82, .int l, .int (nI 2), .int nd, .int w, .int U, .int y.2, .int y.1, .int (nI p), .int (U + G p), .int (nI q), z11] [.int (U + gn G T p q)] ν (fun r μ' => r = some (.int (bx U (o2F G T (-1, x) 36) w)) ∧ μ' = ν) := by
            have gr := gn_r hlp hlq hGr hTr
            rcases hy with ⟨h0, rfl⟩ | ⟨h0, rfl⟩
            · obtain rfl : p = 0 := by omega
              obtain rfl : q = 0 := by omega
              refine r_istore 11 [_, _, _, _, _, _, _, _, _, _, _, _] d_M_best_205 (by decide) rfl ?_
              refine r_iload 6 d_M_best_207 rfl ?_
              refine r_if_lt d_M_best_209 (fun h209 => ?_) (fun h209 => absurd (by decide) h209)
              refine r_iload 8 d_M_best_219 rfl ?_
              refine r_istore 6 [_, _, _, _, _, _, _, _, _, _, _, _] d_M_best_221 (by decide) rfl ?_
              refine r_iload 11 d_M_best_223 rfl ?_
              refine r_istore 7 [_, _, _, _, _, _, _, _, _, _, _, _] d_M_best_225 (by decide) rfl ?_
              first | refine r_iincN 10 [_, _, _, _, _, _, _, _, _, _, _, _] d_M_best_227 (by decide) rfl rfl ?_ | refine r_iinc 10 [_, _, _, _, _, _, _, _, _, _, _, _] (1) d_M_best_227 (by decide) (by decide) rfl rfl ?_
              refine r_goto d_M_best_230 ?_
              refine hkk (U + gn G T 0 0, nI 0) hlq (Or.inr ⟨by omega, ?_⟩) _
              rw [v2_s hlp hlq, v2_0, o2F, ofr_first gr]
            · have ok := v2_ok (x := x) hlp hq hGr hTr h0
              have lu := lt_U hU ok.1 gr
              refine r_istore 11 [_, _, _, _, _, _, _, _, _, _, _, _] d_M_best_205 (by decide) rfl ?_
              refine r_iload 6 d_M_best_207 rfl ?_
              refine r_if_lt d_M_best_209 (fun h209 => absurd h209 (Int32.not_lt.mpr ok.2)) (fun h209 => ?_)
              refine r_iload 11 d_M_best_212 rfl ?_
              refine r_iload 7 d_M_best_214 rfl ?_
              refine r_icmp_le d_M_best_216 (fun h216 => ?_) (fun h216 => ?_)
              · first | refine r_iincN 10 [_, _, _, _, _, _, _, _, _, _, _, _] d_M_best_227 (by decide) rfl rfl ?_ | refine r_iinc 10 [_, _, _, _, _, _, _, _, _, _, _, _] (1) d_M_best_227 (by decide) (by decide) rfl rfl ?_
                refine r_goto d_M_best_230 ?_
                first
                  | (have z := lu.mp h216
                     refine hkk (U + (v2 G T x p q).1, (v2 G T x p q).2) hlq (Or.inr ⟨by omega, ?_⟩) _
                     rw [v2_s hlp hlq, ofr, if_neg z])
                  | (have z := Classical.not_not.mp (mt lu.mpr h216)
                     refine hkk (U + gn G T p q, nI p) hlq (Or.inr ⟨by omega, ?_⟩) _
                     rw [v2_s hlp hlq, ofr, if_pos z])
              · refine r_iload 8 d_M_best_219 rfl ?_
                refine r_istore 6 [_, _, _, _, _, _, _, _, _, _, _, _] d_M_best_221 (by decide) rfl ?_
                refine r_iload 11 d_M_best_223 rfl ?_
                refine r_istore 7 [_, _, _, _, _, _, _, _, _, _, _, _] d_M_best_225 (by decide) rfl ?_
                first | refine r_iincN 10 [_, _, _, _, _, _, _, _, _, _, _, _] d_M_best_227 (by decide) rfl rfl ?_ | refine r_iinc 10 [_, _, _, _, _, _, _, _, _, _, _, _] (1) d_M_best_227 (by decide) (by decide) rfl rfl ?_
                refine r_goto d_M_best_230 ?_
                first
                  | (have z := lu.mp h216
                     refine hkk (U + (v2 G T x p q).1, (v2 G T x p q).2) hlq (Or.inr ⟨by omega, ?_⟩) _
                     rw [v2_s hlp hlq, ofr, if_neg z])
                  | (have z := Classical.not_not.mp (mt lu.mpr h216)
                     refine hkk (U + gn G T p q, nI p) hlq (Or.inr ⟨by omega, ?_⟩) _
                     rw [v2_s hlp hlq, ofr, if_pos z])
          first
            | (have z151 : nI p = nI q := h151
               have e151 : p = q := (nI_eq (by omega) (by omega)).mp z151
               rw [gn, if_pos e151, hT p hlp] at sm
               exact Wa.eqI (by grind) sm)
            | (have z151 : ¬ nI p = nI q := h151
               have e151 : ¬ p = q := fun z => z151 (by rw [z])
               rw [gn, if_neg e151, hG q hlq] at sm
               exact Wa.eqI (by grind) sm)
    · rcases hv with ⟨h0, h1⟩ | ⟨h0, h1⟩
      · exact Or.inl ⟨by omega, h1⟩
      · exact Or.inr ⟨by omega, by rw [v2_0]; exact h1⟩
theorem sum_r {f : Nat → Int32} : ∀ n, n ≤ 36 → (∀ p, p < n → 0 ≤ f p ∧ f p ≤ 100) → 0 ≤ sumF f n ∧ sumF f n ≤ nI (100 * n)
  | 0, _, _ => ⟨by rw [sumF]; decide, by rw [sumF]; decide⟩
  | n + 1, hn, h => by
    have ih := sum_r n (by omega) (fun p hp => h p (by omega))
    have h1 := h n (by omega)
    rw [sumF]
    obtain ⟨a, ha, ea⟩ := nI_of (Int32.not_lt.mpr ih.1)
    obtain ⟨b, hb, eb⟩ := nI_of (Int32.not_lt.mpr h1.1)
    have h2 := ih.2
    have h3 := h1.2
    rw [ea] at h2 ⊢
    rw [eb] at h3 ⊢
    have h4 := (nI_leI ha (by omega)).mp h2
    have h5 := (nI_leI (b := 100) hb (by decide)).mp h3
    rw [nI_add]
    exact ⟨nI_pos' (by omega), nI_le (by omega) (by omega)⟩
set_option maxHeartbeats 400000 in
theorem c_M_best_no {m : Nat} (hm : m ≤ 4) (l n d w : Int32) (μ : Me) (hct : μ.1 83 0 = nI m) (hG : ¬ ((0 ≤ l ∧ l < nI m) ∧ (1 ≤ n ∧ n ≤ 2) ∧ (0 ≤ d ∧ d ≤ 9) ∧ 0 ≤ w ∧ w ≤ 1)) : CtI m_M_best 3 [.ref 82, .int l, .int n, .int d, .int w] μ (-1) μ := by
  refine Ct.of (ls := [.ref 82, .int l, .int n, .int d, .int w, flr, flr, flr, flr, flr, flr, flr]) rfl (Nat.le_of_ble_eq_true rfl) rfl (fun X => ?_)
  refine r_aload_n 0 d_M_best_0 rfl rfl ?_
  refine r_iload_n 1 d_M_best_1 rfl rfl ?_
  refine r_callVi (c_M_isLearner hm _ _ hct) lk_M_115 (by first | with_reducible assumption | rfl) d_M_best_2 rfl rfl (Nat.le_of_ble_eq_true rfl) (by decide) ?_
  refine r_if_eq d_M_best_5 (fun h5 => ?_) (fun h5 => ?_)
  · refine r_iconst (-1) d_M_best_35 rfl ?_
    refine r_iret .int d_M_best_36 rfl rfl ?_
    exact ⟨rfl, rfl⟩
  · refine r_iload_n 2 d_M_best_8 rfl rfl ?_
    refine r_iconst 1 d_M_best_9 rfl ?_
    refine r_iconst 2 d_M_best_10 rfl ?_
    refine r_callSi (c_M_in _ _ _ _) lk_M_72 d_M_best_11 rfl rfl (Nat.le_of_ble_eq_true rfl) (by decide) ?_
    refine r_if_eq d_M_best_14 (fun h14 => ?_) (fun h14 => ?_)
    · refine r_iconst (-1) d_M_best_35 rfl ?_
      refine r_iret .int d_M_best_36 rfl rfl ?_
      exact ⟨rfl, rfl⟩
    · refine r_iload_n 3 d_M_best_17 rfl rfl ?_
      refine r_iconst 0 d_M_best_18 rfl ?_
      refine r_bipush (9) d_M_best_19 (by decide) ?_
      refine r_callSi (c_M_in _ _ _ _) lk_M_72 d_M_best_21 rfl rfl (Nat.le_of_ble_eq_true rfl) (by decide) ?_
      refine r_if_eq d_M_best_24 (fun h24 => ?_) (fun h24 => ?_)
      · refine r_iconst (-1) d_M_best_35 rfl ?_
        refine r_iret .int d_M_best_36 rfl rfl ?_
        exact ⟨rfl, rfl⟩
      · refine r_iload 4 d_M_best_27 rfl ?_
        refine r_callSi (c_M_isSide _ _) lk_M_209 d_M_best_29 rfl rfl (Nat.le_of_ble_eq_true rfl) (by decide) ?_
        refine r_if_ne d_M_best_32 (fun h32 => ?_) (fun h32 => ?_)
        · exact absurd ⟨bz_p h5, bz_p h14, bz_p h24, bz_p h32⟩ hG
        · refine r_iconst (-1) d_M_best_35 rfl ?_
          refine r_iret .int d_M_best_36 rfl rfl ?_
          exact ⟨rfl, rfl⟩
theorem bhG_at {h g : Nat → Int32} {j : Nat} {w : Int32} {n p k : Nat} (hp : p < 36) (hk : k < 3) : bhG h g j w n 108 (3 * p + k) = bhS g j w n p k := by
  rw [bhG, if_pos (by omega), show (3 * p + k) / 3 = p by omega, show (3 * p + k) % 3 = k by omega]
set_option maxHeartbeats 400000 in
theorem c_M_best {m j n d : Nat} (hm : m ≤ 4) (hj : j < m) (hn : n = 1 ∨ n = 2) (hd : d ≤ 9) (w x : Int32) (hw : 0 ≤ w ∧ w ≤ 1) (μ : Me) (hct : μ.1 83 0 = nI m) (hat : μ.1 82 1 = nI 0) (hO : LO (μ.1 83) 0 j) (hr : ∀ p, p < 36 → ¬ (100 * (rM (μ.1 83) 0 j p + 1) = 0)) (G T : Nat → Int32) (hG : ∀ p, p < 36 → G p = bhS (μ.1 83) j (μ.1 84 0) d p 1 - bhS (μ.1 83) j (μ.1 84 0) d p 0) (hT : ∀ p, p < 36 → T p = bhS (μ.1 83) j (μ.1 84 0) d p 2 - bhS (μ.1 83) j (μ.1 84 0) d p 0) (hGr : ∀ p, p < 36 → 0 ≤ G p ∧ G p ≤ 100) (hTr : ∀ p, p < 36 → 0 ≤ T p ∧ T p ≤ 100) (h0r : ∀ p, p < 36 → 0 ≤ bhS (μ.1 83) j (μ.1 84 0) d p 0 ∧ bhS (μ.1 83) j (μ.1 84 0) d p 0 ≤ 100) :
    CtI m_M_best 3 [.ref 82, .int (nI j), .int (nI n), .int (nI d), .int w] μ (bx (sumF (fun p => bhS (μ.1 83) j (μ.1 84 0) d p 0) 36) (if n = 1 then o1F G (-1, x) 36 else o2F G T (-1, x) 36) w) (rI μ 86 (bhG (μ.1 86) (μ.1 83) j (μ.1 84 0) d 108)) := by
  refine Ct.of (ls := [.ref 82, .int (nI j), .int (nI n), .int (nI d), .int w, flr, flr, flr, flr, flr, flr, flr]) rfl (Nat.le_of_ble_eq_true rfl) rfl (fun X => ?_)
  have hν : ∀ p, p < 36 → ∀ k, k < 3 → (rI μ 86 (bhG (μ.1 86) (μ.1 83) j (μ.1 84 0) d 108)).1 86 (3 * p + k) = bhS (μ.1 83) j (μ.1 84 0) d p k := fun p hp k hk => by rw [rI_eq, bhG_at hp hk]
  have hU := sum_r (f := fun p => bhS (μ.1 83) j (μ.1 84 0) d p 0) 36 (Nat.le_refl _) h0r
  refine r_aload_n 0 d_M_best_0 rfl rfl ?_
  refine r_iload_n 1 d_M_best_1 rfl rfl ?_
  refine r_callVi (c_M_isLearner hm _ _ hct) lk_M_115 (by first | with_reducible assumption | rfl) d_M_best_2 rfl rfl (Nat.le_of_ble_eq_true rfl) (by decide) ?_
  refine r_if_eq d_M_best_5 (fun h5 => absurd h5 (bzy (nIb hj hm))) (fun h5 => ?_)
  refine r_iload_n 2 d_M_best_8 rfl rfl ?_
  refine r_iconst 1 d_M_best_9 rfl ?_
  refine r_iconst 2 d_M_best_10 rfl ?_
  refine r_callSi (c_M_in _ _ _ _) lk_M_72 d_M_best_11 rfl rfl (Nat.le_of_ble_eq_true rfl) (by decide) ?_
  refine r_if_eq d_M_best_14 (fun h14 => absurd h14 (bzy (by rcases hn with rfl | rfl <;> decide))) (fun h14 => ?_)
  refine r_iload_n 3 d_M_best_17 rfl rfl ?_
  refine r_iconst 0 d_M_best_18 rfl ?_
  refine r_bipush (9) d_M_best_19 (by decide) ?_
  refine r_callSi (c_M_in _ _ _ _) lk_M_72 d_M_best_21 rfl rfl (Nat.le_of_ble_eq_true rfl) (by decide) ?_
  refine r_if_eq d_M_best_24 (fun h24 => absurd h24 (bzy ⟨nI_pos' (by omega), nI_le (b := 9) hd (by decide)⟩)) (fun h24 => ?_)
  refine r_iload 4 d_M_best_27 rfl ?_
  refine r_callSi (c_M_isSide _ _) lk_M_209 d_M_best_29 rfl rfl (Nat.le_of_ble_eq_true rfl) (by decide) ?_
  refine r_if_ne d_M_best_32 (fun h32 => ?_) (fun h32 => absurd h32 (bzy hw))
  refine r_aload_n 0 d_M_best_37 rfl rfl ?_
  refine r_iload_n 1 d_M_best_38 rfl rfl ?_
  refine r_iload_n 3 d_M_best_39 rfl rfl ?_
  refine r_callVv (c_M_findBehind (show j < 4 by omega) (by omega) _ hat hO hr) lk_M_222 (by first | with_reducible assumption | rfl) d_M_best_40 rfl rfl (Nat.le_of_ble_eq_true rfl) (by decide) ?_
  refine r_iconst 0 d_M_best_43 rfl ?_
  refine r_istore 5 [_, _, _, _, _, _, _, _, _, _, _, _] d_M_best_44 (by decide) rfl ?_
  refine r_iconst 0 d_M_best_46 rfl ?_
  refine r_istore 6 [_, _, _, _, _, _, _, _, _, _, _, _] d_M_best_47 (by decide) rfl ?_
  refine lpN 36 (fun i (s : Int32) => Wa X m_M_best 3 49 [.ref 82, .int (nI j), .int (nI n), .int (nI d), .int w, .int s, .int (nI i), flr, flr, flr, flr, flr] [] (rI μ 86 (bhG (μ.1 86) (μ.1 83) j (μ.1 84 0) d 108)) _) (fun i s => s = sumF (fun p => bhS (μ.1 83) j (μ.1 84 0) d p 0) i) ?_ 0 0 (Nat.zero_le _) rfl
  intro i s hi hs hk
  refine r_iload 6 d_M_best_49 rfl ?_
  refine r_bipush (36) d_M_best_51 (by decide) ?_
  refine r_icmp_ge d_M_best_53 (fun h53 => ?_) (fun h53 => ?_)
  · have hge := n_le (a := 36) h53 rfl rfl (by decide) (by omega)
    obtain rfl : i = 36 := by omega
    subst hs
    refine r_iconst (-1) d_M_best_76 rfl ?_
    refine r_istore 6 [_, _, _, _, _, _, _, _, _, _, _, _] d_M_best_77 (by decide) rfl ?_
    refine r_iconst 0 d_M_best_79 rfl ?_
    refine r_istore 7 [_, _, _, _, _, _, _, _, _, _, _, _] d_M_best_80 (by decide) rfl ?_
    refine r_iconst 0 d_M_best_82 rfl ?_
    refine r_istore 8 [_, _, _, _, _, _, _, _, _, _, _, _] d_M_best_83 (by decide) rfl ?_
    rcases hn with rfl | rfl
    · rw [if_pos rfl]
      exact c_M_best_1 X _ _ _ _ x _ G _ hν hG hGr hU 0 (0, -1) (by decide) (Or.inl ⟨rfl, rfl⟩) _ _ _
    · rw [if_neg (by decide)]
      exact c_M_best_2 X _ _ _ _ x _ G T _ hν hG hGr hT hTr hU 0 (0, -1) (by decide) (Or.inl ⟨rfl, rfl⟩) _ _ _
  · have hli : i < 36 := n_lt (a := 36) h53 rfl rfl (by decide) (by omega)
    refine r_iload 5 d_M_best_56 rfl ?_
    refine r_aload_n 0 d_M_best_58 rfl rfl ?_
    refine r_getR fl_M_23 (by first | with_reducible assumption | rfl) rfl d_M_best_59 ?_
    refine r_iconst 3 d_M_best_62 rfl ?_
    refine r_iload 6 d_M_best_63 rfl ?_
    refine r_imul d_M_best_65 ?_
    rw [mul3]
    refine r_ialdN (by first | with_reducible assumption | rfl) (show 3 * i < 108 by omega) d_M_best_66 ?_
    rw [show 3 * i = 3 * i + 0 from rfl, hν i hli 0 (by decide)]
    refine r_iadd d_M_best_67 ?_
    refine r_istore 5 [_, _, _, _, _, _, _, _, _, _, _, _] d_M_best_68 (by decide) rfl ?_
    first | refine r_iincN 6 [_, _, _, _, _, _, _, _, _, _, _, _] d_M_best_70 (by decide) rfl rfl ?_ | refine r_iinc 6 [_, _, _, _, _, _, _, _, _, _, _, _] (1) d_M_best_70 (by decide) (by decide) rfl rfl ?_
    refine r_goto d_M_best_73 ?_
    exact hk _ hli (by rw [sumF, hs])
