/-! the tape, shelves, acts -/
theorem sshr8 (x : BitVec 64) (k : Nat) (hk : k ≤ 56) : (x.sshiftRight k).toNat % 256 = (x >>> k).toNat % 256 := by
  have e : (x.sshiftRight k).setWidth 8 = (x >>> k).setWidth 8 := by
    apply BitVec.eq_of_getLsbD_eq
    intro i hi
    rw [BitVec.getLsbD_setWidth, BitVec.getLsbD_setWidth, BitVec.getLsbD_sshiftRight, BitVec.getLsbD_ushiftRight, if_pos (by omega)]
    rw [show decide (64 ≤ i) = false from decide_eq_false (by omega)]
    rfl
  have := congrArg BitVec.toNat e
  rwa [BitVec.toNat_setWidth, BitVec.toNat_setWidth] at this
theorem sg_i8 : ∀ b : Fin 256, (Int8.ofNat b.val).toInt32 = sg b.val := by decide +kernel
theorem byte_ok (e : Int64) {k : Nat} (hk : k < 8) : ∃ b, b < 256 ∧ byteM e k = nI b ∧ byteS e k = sg b := by
  have e8 : (8 : Int32) * nI k = nI (8 * k) := pk_mul 8 k
  refine ⟨(e.toBitVec >>> (8 * k)).toNat % 256, Nat.mod_lt _ (by decide), ?_, ?_⟩
  · unfold byteM
    rw [e8]
    apply Int32.toBitVec_inj.1
    apply BitVec.eq_of_toNat_eq
    show (((e.toBitVec.sshiftRight' (((nI (8 * k)).toInt64 &&& 63).toBitVec.smod 64)) &&& 255#64).signExtend 32).toNat = (BitVec.ofNat 32 ((e.toBitVec >>> (8 * k)).toNat % 256)).toNat
    rw [BitVec.signExtend_eq_setWidth_of_le _ (by decide), BitVec.sshiftRight', sh63 ⟨8 * k, by omega⟩, BitVec.toNat_setWidth, BitVec.toNat_and, show (255#64).toNat = 2 ^ 8 - 1 from rfl, Nat.and_two_pow_sub_one_eq_mod, show (2 : Nat) ^ 8 = 256 from rfl, sshr8 _ _ (by show 8 * k ≤ 56; omega), BitVec.toNat_ofNat]
  · rw [byteS, pk_vb, e8]
    have e1 : (ush e (nI (8 * k))).toInt32.toInt8 = Int8.ofNat ((e.toBitVec >>> (8 * k)).toNat % 256) := by
      apply Int8.toBitVec_inj.1
      apply BitVec.eq_of_toNat_eq
      show (((e.toBitVec >>> (((nI (8 * k)).toInt64.toUInt64 &&& Int64.toUInt64 63).toBitVec % 64)).signExtend 32).signExtend 8).toNat = (BitVec.ofNat 8 ((e.toBitVec >>> (8 * k)).toNat % 256)).toNat
      rw [BitVec.signExtend_eq_setWidth_of_le _ (by decide), BitVec.signExtend_eq_setWidth_of_le _ (by decide), BitVec.ushiftRight_eq', sh63u ⟨8 * k, by omega⟩, BitVec.toNat_setWidth, BitVec.toNat_setWidth, BitVec.toNat_ofNat]
      show (e.toBitVec >>> (8 * k)).toNat % 2 ^ 32 % 2 ^ 8 = (e.toBitVec >>> (8 * k)).toNat % 256 % 2 ^ 8
      omega
    rw [e1]
    exact sg_i8 ⟨_, Nat.mod_lt _ (by decide)⟩
/-- what stands on both tapes when n bytes more come -/
theorem tap_ok (e : Int64) {t : Nat} {f g : Nat → Int32} {u : Nat → Nat} (h : ∀ i, i < t → u i < 256 ∧ f i = sg (u i) ∧ g i = nI (u i)) : ∀ k, k ≤ 8 → ∃ u' : Nat → Nat, ∀ i, i < t + k → u' i < 256 ∧ tapF e t f k i = sg (u' i) ∧ tapM e t g k i = nI (u' i)
  | 0, _ => ⟨u, h⟩
  | k + 1, hk => by
    obtain ⟨u', hu⟩ := tap_ok e h k (by omega)
    obtain ⟨b, hb, e1, e2⟩ := byte_ok e (show k < 8 by omega)
    refine ⟨fun i => if i = t + k then b else u' i, fun i hi => ?_⟩
    rw [tapF, tapM]
    show (if i = t + k then b else u' i) < 256 ∧ upd (tapF e t f k) (t + k) (byteS e k) i = sg (if i = t + k then b else u' i) ∧ upd (tapM e t g k) (t + k) (byteM e k) i = nI (if i = t + k then b else u' i)
    by_cases ei : i = t + k
    · subst ei
      rw [if_pos rfl, pk_us, pk_us]
      exact ⟨hb, e2, e1⟩
    · rw [if_neg ei, pk_un ei, pk_un ei]
      exact hu i (by omega)
theorem op_feed {m n D s : Nat} {μ : Me} (hD : D ≤ 108 * s) (h : RRx m n D s μ) (e : Int64) (c : Int32) : OpI m_S_feed 1 m_M_feed 1 [.long e, .int c] μ s := by
  by_cases hG : 1 ≤ c ∧ c ≤ 8
  · obtain ⟨c, hc, rfl⟩ := fNl (x := c) (N := 8) (by decide) ⟨Int32.le_trans (by decide) hG.1, hG.2⟩
    have hc1 : 1 ≤ c ∧ c ≤ 8 := ⟨by
      have : c ≠ 0 := fun z => by subst z; exact absurd hG.1 (by decide)
      omega, hc⟩
    obtain ⟨u, N, a, b⟩ := h.2.2.2.1
    have a2 := a.2.1
    by_cases hf : N + c ≤ 200
    · obtain ⟨u', hu⟩ := tap_ok e (t := N) (f := μ.1 48) (g := μ.1 88) (u := u) (fun i hi => ⟨(a.2.2 i hi).1, (a.2.2 i hi).2, (b.2.2 i hi).2⟩) c hc
      generalize eν : uI (rI μ 48 (tapF e N (μ.1 48) c)) 47 1 (nI (N + c)) = ν
      have c1 := c_S_feed e hc1 hf μ a.1
      rw [eν] at c1
      have aa : ∀ x, x ≠ 47 → x ≠ 48 → ν.1 x = μ.1 x := fun x h1 h2 => by rw [← eν, uI_ne h1, rI_ne h2]
      have c2 := c_M_feed e hc1 hf ν (by rw [aa 82 (by decide) (by decide)]; exact b.1)
      rw [aa 88 (by decide) (by decide)] at c2
      refine opI c1 c2 rfl (show D ≤ _ by omega) (h.up.setT ⟨fun x h1 h2 => ?_, fun x h1 h2 => ?_, fun i hi => ?_, fun x _ _ => by rw [← eν]; rfl⟩ ⟨u', N + c, ⟨?_, hf, fun i hi => ?_⟩, ⟨?_, hf, fun i hi => ?_⟩⟩)
      · unfold scr at h1
        unfold pT at h2
        rw [uI_ne (by omega), rI_ne (by omega), aa x (by omega) (by omega)]
      · rw [uI_off h2, rI_ne (by decide), aa 82 (by decide) (by decide)]
      · rw [uI_ne (by decide), rI_ne (by decide), aa 83 (by decide) (by decide)]
      · rw [uI_ne (by decide), rI_ne (by decide), ← eν, uI_at]
      · rw [uI_ne (by decide), rI_ne (by decide), ← eν, uI_ne (by decide), rI_eq]
        exact ⟨(hu i hi).1, (hu i hi).2.1⟩
      · rw [uI_at]
      · rw [uI_ne (by decide), rI_eq]
        exact ⟨(hu i hi).1, (hu i hi).2.2⟩
    · exact opI (c_S_feed_full e hc1 a2 (by omega) μ a.1) (c_M_feed_full e hc1 a2 (by omega) μ b.1) rfl (show D ≤ _ by omega) h.up
  · exact opI (c_S_feed_bad e hG μ) (c_M_feed_bad e hG μ) rfl (show D ≤ _ by omega) h.up
theorem RRx.shelf {m n D s j : Nat} {μ ν : Me} (h : RRx m n D s μ) (hj : j < 4) (h1 : ∀ x, x ≠ 78 + 1 * j → ν.1 x = μ.1 x) (h2 : ν.2 = μ.2) (a b c : Int32) (hS : SHF1 (hdU ν j a b c).1 j) : RRx m n D s (hdU ν j a b c) := by
  refine h.setF ⟨fun x h3 h4 => ?_, fun x _ _ => ?_, fun i _ => ?_, fun x _ _ => by rw [show (hdU ν j a b c).2 = ν.2 from rfl, h2]⟩ (fun x hx => ?_)
  · unfold pF at h4
    rw [hdU, uI_ne (by omega), uI_ne (by omega), uI_ne (by omega), h1 x (by omega)]
  · rw [hdU, uI_ne (by omega), uI_ne (by omega), uI_ne (by omega), h1 82 (by omega)]
  · rw [hdU, uI_ne (by omega), uI_ne (by omega), uI_ne (by omega), h1 83 (by omega)]
  · by_cases e : x = j
    · subst e
      exact hS
    · have e0 : (hdU ν j a b c).1 (78 + 1 * x) = μ.1 (78 + 1 * x) := by rw [hdU, uI_ne (by omega), uI_ne (by omega), uI_ne (by omega), h1 _ (by omega)]
      have e1 : (hdU ν j a b c).1 96 x = μ.1 96 x := by rw [hdU, uI_ne (by omega), uI_ne (by omega), uI_off e, h1 _ (by omega)]
      have e2 : (hdU ν j a b c).1 97 x = μ.1 97 x := by rw [hdU, uI_ne (by omega), uI_off e, uI_ne (by omega), h1 _ (by omega)]
      have e3 : (hdU ν j a b c).1 98 x = μ.1 98 x := by rw [hdU, uI_off e, uI_ne (by omega), uI_ne (by omega), h1 _ (by omega)]
      unfold SHF1
      rw [e0, e1, e2, e3]
      exact h.2.2.2.2.2.2.1 x hx
theorem hd_c {ν : Me} {j x : Nat} {a b c : Int32} (hj : j < 4) : (hdU ν j a b c).1 (78 + 1 * j) x = ν.1 (78 + 1 * j) x := by rw [hdU, uI_ne (by omega), uI_ne (by omega), uI_ne (by omega)]
theorem hd_96 {ν : Me} {j : Nat} {a b c : Int32} : (hdU ν j a b c).1 96 j = a := by rw [hdU, uI_ne (by omega), uI_ne (by omega), uI_at]
theorem hd_97 {ν : Me} {j : Nat} {a b c : Int32} : (hdU ν j a b c).1 97 j = b := by rw [hdU, uI_ne (by omega), uI_at]
theorem hd_98 {ν : Me} {j : Nat} {a b c : Int32} : (hdU ν j a b c).1 98 j = c := by rw [hdU, uI_at]
theorem op_shelf {m n D s : Nat} {μ : Me} (hD : D ≤ 108 * s) (h : RRx m n D s μ) (t w c : Int32) : OpI m_S_shelf 2 m_M_shelf 3 [.int t, .int w, .int c] μ s := by
  have hm := SRx.m4 h.sc
  have hc := h.sc.cls
  by_cases hG : (0 ≤ t ∧ t < 4) ∧ ((w = 0 ∧ 0 ≤ c ∧ c < nI m) ∨ (w = 1 ∧ 0 ≤ c ∧ c < 4) ∨ w = 2)
  · obtain ⟨j, hj, rfl⟩ := f4 hG.1
    rcases hG.2 with ⟨rfl, hl⟩ | ⟨rfl, hl⟩ | rfl
    · obtain ⟨q, hq, rfl⟩ := lr_yes hm hl
      have c1 := c_S_shelf_0 hj hm hq μ hc
      generalize eν : uI (noM μ (78 + 1 * j)) (78 + 1 * j) 0 (nI q) = ν at c1
      have aa : ∀ x, x ≠ 78 + 1 * j → ν.1 x = μ.1 x := fun x hx => by rw [← eν, uI_ne hx, noM, uI_ne hx, uI_ne hx, uI_ne hx]
      refine opI c1 (c_M_shelf_0 hj hm hq ν (by rw [aa 83 (by omega)]; exact h.sc.ref)) rfl (show D ≤ _ by omega) (h.up.shelf hj aa (by rw [← eν]; rfl) _ _ _ (Or.inr (Or.inl ⟨q, by omega, ?_, ?_, hd_96, hd_97⟩)))
      · rw [hd_c hj, ← eν, uI_at]
      · rw [hd_c hj, ← eν, uI_off (by decide), noM, uI_off (by decide), uI_at]
    · obtain ⟨q, hq, rfl⟩ := f4 hl
      have c1 := c_S_shelf_1 hj hq μ
      obtain ⟨f1, f2, ln, hln, ⟨f3, f4'⟩, f5⟩ := h.2.2.2.2.2.1 q hq
      generalize eν : uI (uI (uI μ (78 + 1 * j) 0 (-9)) (78 + 1 * j) 1 (μ.1 (70 + 2 * q) 0)) (78 + 1 * j) 2 (μ.1 (70 + 2 * q) 1) = ν at c1
      have aa : ∀ x, x ≠ 78 + 1 * j → ν.1 x = μ.1 x := fun x hx => by rw [← eν, uI_ne hx, uI_ne hx, uI_ne hx]
      have a0 : ν.1 (78 + 1 * j) 0 = -9 := by rw [← eν, uI_off (by decide), uI_off (by decide), uI_at]
      have a1 : ν.1 (78 + 1 * j) 1 = μ.1 93 q := by rw [← eν, uI_off (by decide), uI_at, f1]
      have a2 : ν.1 (78 + 1 * j) 2 = μ.1 94 q := by rw [← eν, uI_at, f3, f4']
      refine opI c1 (c_M_shelf_1 hj hm hq ν (by rw [aa 83 (by omega)]; exact h.sc.ref)) rfl (show D ≤ _ by omega) (h.up.shelf hj aa (by rw [← eν]; rfl) _ _ _ ?_)
      rw [aa 93 (by omega), aa 94 (by omega)]
      rcases f2 with z | z
      · refine Or.inl ⟨?_, ?_, ?_⟩
        · rw [hd_c hj, a0]
        · rw [hd_c hj, a1, z]
        · rw [hd_96, z, if_pos (by decide)]
      · refine Or.inr (Or.inr ⟨?_, ?_, ?_, ?_, ?_⟩)
        · rw [hd_c hj, a0]
        · rw [hd_97]
          exact z
        · rw [hd_c hj, hd_97, a1]
        · rw [hd_96, if_neg (Int32.not_lt.mpr z.1)]
        · rw [hd_c hj, hd_98, a2]
    · have c1 := c_S_shelf_2 hj c μ
      generalize eν : noM μ (78 + 1 * j) = ν at c1
      have aa : ∀ x, x ≠ 78 + 1 * j → ν.1 x = μ.1 x := fun x hx => by rw [← eν, noM, uI_ne hx, uI_ne hx, uI_ne hx]
      refine opI c1 (c_M_shelf_2 hj hm c ν (by rw [aa 83 (by omega)]; exact h.sc.ref)) rfl (show D ≤ _ by omega) (h.up.shelf hj aa (by rw [← eν]; rfl) _ _ _ (Or.inl ⟨?_, ?_, hd_96⟩))
      · rw [hd_c hj, ← eν, noM, uI_off (by decide), uI_off (by decide), uI_at]
      · rw [hd_c hj, ← eν, noM, uI_off (by decide), uI_at]
  · exact opI (c_S_shelf_bad hm t w c μ hc hG) (c_M_shelf_bad hm t w c μ h.sc.ref hG) rfl (show D ≤ _ by omega) h.up
theorem kn3_no {g : Nat → Int32} {m : Nat} {x y : Int32} (hx : x = -1) : knS3 g m x y = -1 := by
  subst hx
  rw [knS3, if_neg (by decide), if_pos (by decide)]
theorem kn3_row {g : Nat → Int32} {m : Nat} {x y : Int32} (hx : x = 1) : knS3 g m x y = 9 := by
  subst hx
  rw [knS3, if_neg (by decide), if_neg (by decide)]
theorem kn3_out {g : Nat → Int32} {m q : Nat} {x y : Int32} (hx : x = 0) (hy : y = nI q) (hq : q < 4) (hm : m ≤ q) : knS3 g m x y = -1 := by
  subst hx hy
  rw [knS3, if_pos rfl, if_neg (fun z => absurd z.2 (nI_nlt hm (by omega)))]
theorem kn3_in {g : Nat → Int32} {m q : Nat} {x y : Int32} (hx : x = 0) (hy : y = nI q) (hq : q < m) (hm : m ≤ 4) : knS3 g m x y = kM g 0 q := by
  subst hx hy
  rw [knS3, if_pos rfl, if_pos (nIb hq hm), nI_clamp (by omega)]
theorem op_taken {m n D s : Nat} {μ : Me} (hD : D ≤ 108 * s) (h : RRx m n D s μ) (t a : Int32) : OpI m_S_taken 1 m_M_taken 3 [.int t, .int a] μ s := by
  have hm := SRx.m4 h.sc
  have hc := h.sc.cls
  have hr := h.sc.ref
  by_cases hG : (0 ≤ t ∧ t < 4) ∧ isAs a
  · obtain ⟨j, hj, rfl⟩ := f4 hG.1
    rcases h.2.2.2.2.2.2.1 j hj with ⟨f0, f1, f2⟩ | ⟨q, hq, f0, f1, f2, f3⟩ | ⟨f0, f1, f2, f3, f4'⟩
    · exact opI (c_S_taken_none hj a hG.2 μ hc f1 (by rw [f0]; exact fun z => absurd z.1 (by decide))) (c_M_taken_none hj hm a hG.2 μ hr h.at0 (kn3_no f2)) rfl (show D ≤ _ by omega) h.up
    · by_cases hqm : q < m
      · obtain ⟨k, hk, ek⟩ := (SRx.hd h.sc q hqm).2.1
        exact opI (c_S_taken_lrn hj a hG.2 μ hm hc f1 hqm f0 hk ((SRx.hd h.sc q hqm).1.1.trans ek)) (c_M_taken_lrn hj hm a hG.2 μ hr h.at0 hk ((kn3_in f2 f3 hqm hm).trans ek) f3) rfl (show D ≤ _ by omega) h.up
      · exact opI (c_S_taken_none hj a hG.2 μ hc f1 (by rw [f0]; exact fun z => absurd z.2 (nI_nlt (by omega) (by omega)))) (c_M_taken_none hj hm a hG.2 μ hr h.at0 (kn3_out f2 f3 hq (by omega))) rfl (show D ≤ _ by omega) h.up
    · refine opI (c_S_taken_row hj a hG.2 μ (by rw [f2]; exact fun z => absurd f1.1 (by rw [z]; decide))) (c_M_taken_row hj hm a hG.2 μ hr h.at0 (kn3_row f3)) ?_ (show D ≤ _ by omega) h.up
      rw [f2, f4']
      refine ifc ?_ rfl rfl
      obtain ⟨b, hb, eb⟩ := fNl (N := 3) (by decide) f1
      rw [eb]
      constructor
      · intro z
        rw [z, show (10 : Int32) = nI 10 from rfl, nI_add, pk_sub (by omega), show 10 + b - 10 = b by omega]
        exact ⟨⟨nI_le (by omega) (by omega), nI_le (b := 13) (by omega) (by omega)⟩, rfl⟩
      · intro z
        have := z.2
        grind
  · exact opI (c_S_taken_bad hG μ) (c_M_taken_bad hG μ) rfl (show D ≤ _ by omega) h.up
