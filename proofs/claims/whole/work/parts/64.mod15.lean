/-! numbers: how many bits a set has -/
theorem fb_andL (a b : Nat) : lN a &&& lN b = lN (a &&& b) := by
  apply Int64.toBitVec_inj.1
  show BitVec.ofNat 64 a &&& BitVec.ofNat 64 b = BitVec.ofNat 64 (a &&& b)
  apply BitVec.eq_of_getLsbD_eq
  intro i hi
  simp [hi]
theorem fb_orL (a b : Nat) : lN a ||| lN b = lN (a ||| b) := by
  apply Int64.toBitVec_inj.1
  show BitVec.ofNat 64 a ||| BitVec.ofNat 64 b = BitVec.ofNat 64 (a ||| b)
  apply BitVec.eq_of_getLsbD_eq
  intro i hi
  simp [hi]
theorem fb_xorL (a b : Nat) : lN a ^^^ lN b = lN (a ^^^ b) := by
  apply Int64.toBitVec_inj.1
  show BitVec.ofNat 64 a ^^^ BitVec.ofNat 64 b = BitVec.ofNat 64 (a ^^^ b)
  apply BitVec.eq_of_getLsbD_eq
  intro i hi
  simp [hi]
theorem fb_lN_inj {a b : Nat} (ha : a < 2 ^ 63) (hb : b < 2 ^ 63) : lN a = lN b ↔ a = b := by
  constructor
  · intro h
    have h1 : (BitVec.ofNat 64 a).toNat = (BitVec.ofNat 64 b).toNat := congrArg (fun x : Int64 => x.toBitVec.toNat) h
    rw [BitVec.toNat_ofNat, BitVec.toNat_ofNat, Nat.mod_eq_of_lt (by omega), Nat.mod_eq_of_lt (by omega)] at h1
    exact h1
  · intro h; rw [h]
theorem lc0 {x y : Int64} : lg_cmp x y = 0 ↔ x = y := by
  unfold lg_cmp
  constructor
  · intro h
    split at h
    · exact absurd h (by decide)
    · split at h
      · assumption
      · exact absurd h (by decide)
  · intro h
    subst h
    rw [if_neg (fun z => Int64.lt_irrefl z), if_pos rfl]
theorem sh63 : ∀ p : Fin 64, (((nI p.val).toInt64 &&& 63).toBitVec.smod 64).toNat = p.val := by decide +kernel
theorem sh63u : ∀ p : Fin 64, (((nI p.val).toInt64.toUInt64 &&& Int64.toUInt64 63).toBitVec % 64).toNat = p.val := by decide +kernel
theorem shrL {n p : Nat} (hn : n < 2 ^ 63) (hp : p < 64) : lN n >>> ((nI p).toInt64 &&& 63) = lN (n / 2 ^ p) := by
  apply Int64.toBitVec_inj.1
  show (BitVec.ofNat 64 n).sshiftRight' (((nI p).toInt64 &&& 63).toBitVec.smod 64) = BitVec.ofNat 64 (n / 2 ^ p)
  rw [BitVec.sshiftRight', sh63 ⟨p, hp⟩, BitVec.sshiftRight_eq_of_msb_false]
  · apply BitVec.eq_of_toNat_eq
    rw [BitVec.toNat_ushiftRight, BitVec.toNat_ofNat, BitVec.toNat_ofNat, Nat.shiftRight_eq_div_pow, Nat.mod_eq_of_lt (by omega), Nat.mod_eq_of_lt]
    exact Nat.lt_of_le_of_lt (Nat.div_le_self _ _) (by omega)
  · rw [BitVec.msb_eq_decide, BitVec.toNat_ofNat, Nat.mod_eq_of_lt (by omega)]
    simp; omega
theorem ushL {n p : Nat} (hn : n < 2 ^ 63) (hp : p < 64) : ush (lN n) (nI p) = lN (n / 2 ^ p) := by
  apply Int64.toBitVec_inj.1
  show (BitVec.ofNat 64 n) >>> (((nI p).toInt64.toUInt64 &&& Int64.toUInt64 63).toBitVec % 64) = BitVec.ofNat 64 (n / 2 ^ p)
  apply BitVec.eq_of_toNat_eq
  rw [BitVec.ushiftRight_eq', sh63u ⟨p, hp⟩, BitVec.toNat_ushiftRight, BitVec.toNat_ofNat, BitVec.toNat_ofNat, Nat.shiftRight_eq_div_pow, Nat.mod_eq_of_lt (by omega), Nat.mod_eq_of_lt]
  exact Nat.lt_of_le_of_lt (Nat.div_le_self _ _) (by omega)
def pcN : Nat → Nat → Nat
  | 0, _ => 0
  | k + 1, n => n % 2 + pcN k (n / 2)
theorem pc_0 : ∀ k, pcN k 0 = 0
  | 0 => rfl
  | k + 1 => by rw [pcN, Nat.zero_div, pc_0 k]
theorem pc_kern : ∀ (k n : Nat), n < 2 ^ k → 0 < n → pcN k (n &&& (n - 1)) + 1 = pcN k n
  | 0, n, h, h0 => by simp at h; omega
  | k + 1, n, h, h0 => by
    rw [Nat.pow_succ] at h
    have hm : (n &&& (n - 1)) % 2 = 0 := by
      have := @Nat.and_mod_two_pow n (n - 1) 1
      rw [Nat.pow_one] at this
      rw [this]
      rcases Nat.mod_two_eq_zero_or_one n with e | e
      · rw [e, Nat.zero_and]
      · rw [show (n - 1) % 2 = 0 by omega, Nat.and_zero]
    rw [pcN, pcN, hm, Nat.and_div_two]
    rcases Nat.mod_two_eq_zero_or_one n with e | e
    · have ih := pc_kern k (n / 2) (by omega) (by omega)
      rw [show (n - 1) / 2 = n / 2 - 1 by omega, e]
      omega
    · rw [show (n - 1) / 2 = n / 2 by omega, Nat.and_self, e]
      omega
theorem pc_le : ∀ k n, pcN k n ≤ k
  | 0, n => Nat.le_refl _
  | k + 1, n => by have := pc_le k (n / 2); rw [pcN]; omega
theorem pc_more : ∀ (k n : Nat), n < 2 ^ k → ∀ j, pcN (k + j) n = pcN k n
  | 0, n, h, j => by
    have : n = 0 := by simp at h; exact h
    subst this
    rw [pc_0, pc_0]
  | k + 1, n, h, j => by
    rw [Nat.pow_succ] at h
    rw [show k + 1 + j = (k + j) + 1 by omega, pcN, pcN, pc_more k (n / 2) (by omega) j]
theorem and_cat {a m x y : Nat} (ha : a < 256) (hm : m < 256) : (a + 256 * x) &&& (m + 256 * y) = (a &&& m) + 256 * (x &&& y) := by
  apply Nat.eq_of_testBit_eq
  intro i
  have hb : a &&& m < 2 ^ 8 := Nat.and_lt_two_pow a hm
  rw [Nat.testBit_and, Nat.add_comm a, Nat.add_comm m, Nat.add_comm (a &&& m), show 256 = 2 ^ 8 from rfl, Nat.testBit_two_pow_mul_add _ ha, Nat.testBit_two_pow_mul_add _ hm, Nat.testBit_two_pow_mul_add _ hb]
  split
  · rw [Nat.testBit_and]
  · rw [Nat.testBit_and]
def msk (c : Nat) : Nat → Nat
  | 0 => 0
  | k + 1 => c + 256 * msk c k
def s1N (k n : Nat) : Nat := n - (n / 2 &&& msk 85 k)
def s2N (k n : Nat) : Nat := (n &&& msk 51 k) + (n / 4 &&& msk 51 k)
def s3N (k n : Nat) : Nat := (n + n / 16) &&& msk 15 k
def f1N (a : Nat) : Nat := a - (a / 2 &&& 85)
def f2N (a : Nat) : Nat := (a &&& 51) + (a / 4 &&& 51)
def f3N (a : Nat) : Nat := (a + a / 16) &&& 15
theorem m1 : ∀ a : Fin 256, ∀ b : Fin 2, (a.val / 2 + 128 * b.val) &&& 85 = a.val / 2 &&& 85 := by decide +kernel
theorem m2 : ∀ a : Fin 256, ∀ b : Fin 4, (a.val / 4 + 64 * b.val) &&& 51 = a.val / 4 &&& 51 := by decide +kernel
theorem m3 : ∀ a : Fin 256, ∀ b : Fin 5, (a.val + a.val / 16 + 16 * b.val) &&& 15 = (a.val + a.val / 16) &&& 15 := by decide +kernel
theorem fN_ok : ∀ a : Fin 256, f1N a.val < 256 ∧ f2N (f1N a.val) ≤ 68 ∧ f2N (f1N a.val) % 16 ≤ 4 ∧ f3N (f2N (f1N a.val)) = pcN 8 a.val := by decide +kernel
theorem s1_cat {k a x : Nat} (ha : a < 256) : s1N (k + 1) (a + 256 * x) = f1N a + 256 * s1N k x := by
  have e : (a + 256 * x) / 2 = (a / 2 + 128 * (x % 2)) + 256 * (x / 2) := by omega
  have h1 : x / 2 &&& msk 85 k ≤ x / 2 := Nat.and_le_left
  have h2 : a / 2 &&& 85 ≤ a / 2 := Nat.and_le_left
  rw [s1N, s1N, f1N, msk, e, and_cat (by omega) (by decide), m1 ⟨a, ha⟩ ⟨x % 2, by omega⟩]
  simp only
  omega
theorem s2_cat {k a x : Nat} (ha : a < 256) : s2N (k + 1) (a + 256 * x) = f2N a + 256 * s2N k x := by
  have e : (a + 256 * x) / 4 = (a / 4 + 64 * (x % 4)) + 256 * (x / 4) := by omega
  rw [s2N, s2N, f2N, msk, e, and_cat ha (by decide), and_cat (by omega) (by decide), m2 ⟨a, ha⟩ ⟨x % 4, by omega⟩]
  simp only
  omega
theorem s3_cat {k a x : Nat} (ha : a ≤ 68) (hx : x % 16 ≤ 4) : s3N (k + 1) (a + 256 * x) = f3N a + 256 * s3N k x := by
  have e : a + 256 * x + (a + 256 * x) / 16 = (a + a / 16 + 16 * (x % 16)) + 256 * (x + x / 16) := by omega
  rw [s3N, s3N, f3N, msk, e, and_cat (by omega) (by decide), m3 ⟨a, by omega⟩ ⟨x % 16, by omega⟩]
theorem s_0 (k : Nat) : s1N k 0 = 0 ∧ s2N k 0 = 0 ∧ s3N k 0 = 0 := by simp [s1N, s2N, s3N]
theorem pc_cat {k a x : Nat} (ha : a < 256) : pcN (8 + k) (a + 256 * x) = pcN 8 a + pcN k x := by
  rw [show 8 + k = k + 1 + 1 + 1 + 1 + 1 + 1 + 1 + 1 by omega]
  simp only [pcN]
  rw [show (a + 256 * x) / 2 / 2 / 2 / 2 / 2 / 2 / 2 / 2 = x by omega]
  omega
theorem swar {n : Nat} (hn : n < 2 ^ 40) : ∃ c0 c1 c2 c3 c4, c0 ≤ 8 ∧ c1 ≤ 8 ∧ c2 ≤ 8 ∧ c3 ≤ 8 ∧ c4 ≤ 8 ∧ s3N 8 (s2N 8 (s1N 8 n)) = c0 + 256 * (c1 + 256 * (c2 + 256 * (c3 + 256 * c4))) ∧ c0 + c1 + c2 + c3 + c4 = pcN 40 n := by
  obtain ⟨a0, a1, a2, a3, a4, h0, h1, h2, h3, h4, rfl⟩ : ∃ a0 a1 a2 a3 a4, a0 < 256 ∧ a1 < 256 ∧ a2 < 256 ∧ a3 < 256 ∧ a4 < 256 ∧ n = a0 + 256 * (a1 + 256 * (a2 + 256 * (a3 + 256 * (a4 + 256 * 0)))) :=
    ⟨n % 256, n / 256 % 256, n / 65536 % 256, n / 16777216 % 256, n / 4294967296 % 256, by omega, by omega, by omega, by omega, by omega, by omega⟩
  obtain ⟨p0, q0, r0, t0⟩ := fN_ok ⟨a0, h0⟩
  obtain ⟨p1, q1, r1, t1⟩ := fN_ok ⟨a1, h1⟩
  obtain ⟨p2, q2, r2, t2⟩ := fN_ok ⟨a2, h2⟩
  obtain ⟨p3, q3, r3, t3⟩ := fN_ok ⟨a3, h3⟩
  obtain ⟨p4, q4, r4, t4⟩ := fN_ok ⟨a4, h4⟩
  simp only at p0 q0 r0 t0 p1 q1 r1 t1 p2 q2 r2 t2 p3 q3 r3 t3 p4 q4 r4 t4
  refine ⟨_, _, _, _, _, pc_le 8 a0, pc_le 8 a1, pc_le 8 a2, pc_le 8 a3, pc_le 8 a4, ?_, ?_⟩
  · rw [s1_cat h0, s1_cat h1, s1_cat h2, s1_cat h3, s1_cat h4, (s_0 3).1]
    rw [s2_cat p0, s2_cat p1, s2_cat p2, s2_cat p3, s2_cat p4, (s_0 3).2.1]
    rw [s3_cat q0 (by omega), s3_cat q1 (by omega), s3_cat q2 (by omega), s3_cat q3 (by omega), s3_cat q4 (by omega), (s_0 3).2.2]
    rw [t0, t1, t2, t3, t4, Nat.mul_zero, Nat.add_zero]
  · rw [show 40 = 8 + (8 + (8 + (8 + (8 + 0)))) from rfl, pc_cat h0, pc_cat h1, pc_cat h2, pc_cat h3, pc_cat h4, pc_0]
    omega
theorem bit_e {n : Nat} (hn : n < 2 ^ 40) : bitS (lN n) = nI (pcN 40 n) := by
  have hs1 : s1N 8 n ≤ n := Nat.sub_le _ _
  have e1 : bc1 (lN n) = lN (s1N 8 n) := by
    rw [bc1, show (1 : Int32) = nI 1 from rfl, ushL (by omega) (by decide), show (6148914691236517205 : Int64) = lN 6148914691236517205 from rfl, fb_andL, lN_sub (Nat.le_trans Nat.and_le_left (Nat.div_le_self _ _)), s1N, show msk 85 8 = 6148914691236517205 by decide]
  have e2 : bc2 (lN (s1N 8 n)) = lN (s2N 8 (s1N 8 n)) := by
    rw [bc2, show (2 : Int32) = nI 2 from rfl, ushL (by omega) (by decide), show (3689348814741910323 : Int64) = lN 3689348814741910323 from rfl, fb_andL, fb_andL, lN_add, s2N, show msk 51 8 = 3689348814741910323 by decide]
  have hs2 : s2N 8 (s1N 8 n) ≤ 2 * n := by
    have h1 : s1N 8 n &&& msk 51 8 ≤ s1N 8 n := Nat.and_le_left
    have h2 : s1N 8 n / 4 &&& msk 51 8 ≤ s1N 8 n / 4 := Nat.and_le_left
    rw [s2N]; omega
  have e3 : bc3 (lN (s2N 8 (s1N 8 n))) = lN (s3N 8 (s2N 8 (s1N 8 n))) := by
    rw [bc3, show (4 : Int32) = nI 4 from rfl, ushL (by omega) (by decide), show (1085102592571150095 : Int64) = lN 1085102592571150095 from rfl, lN_add, fb_andL, s3N, show msk 15 8 = 1085102592571150095 by decide]
  obtain ⟨c0, c1, c2, c3, c4, h0, h1, h2, h3, h4, es, ep⟩ := swar hn
  have d1 : (c0 + 256 * (c1 + 256 * (c2 + 256 * (c3 + 256 * c4)))) / 2 ^ 8 = c1 + 256 * (c2 + 256 * (c3 + 256 * c4)) := by omega
  have d2 : (c0 + 256 * (c1 + 256 * (c2 + 256 * (c3 + 256 * c4))) + (c1 + 256 * (c2 + 256 * (c3 + 256 * c4)))) / 2 ^ 16 = (c2 + c3) + 256 * (c3 + c4) + 65536 * c4 := by
    rw [show c0 + 256 * (c1 + 256 * (c2 + 256 * (c3 + 256 * c4))) + (c1 + 256 * (c2 + 256 * (c3 + 256 * c4))) = 65536 * ((c2 + c3) + 256 * (c3 + c4) + 65536 * c4) + (c0 + c1 + 256 * (c1 + c2)) by omega]
    rw [show (2 : Nat) ^ 16 = 65536 from rfl, Nat.mul_add_div (by decide), Nat.div_eq_of_lt (by omega), Nat.add_zero]
  have d3 : (c0 + 256 * (c1 + 256 * (c2 + 256 * (c3 + 256 * c4))) + (c1 + 256 * (c2 + 256 * (c3 + 256 * c4))) + ((c2 + c3) + 256 * (c3 + c4) + 65536 * c4)) / 2 ^ 32 = c4 := by
    rw [show c0 + 256 * (c1 + 256 * (c2 + 256 * (c3 + 256 * c4))) + (c1 + 256 * (c2 + 256 * (c3 + 256 * c4))) + ((c2 + c3) + 256 * (c3 + c4) + 65536 * c4) = 4294967296 * c4 + (c0 + c1 + c2 + c3 + 256 * (c1 + c2 + c3 + c4) + 65536 * (c2 + c3 + c4) + 16777216 * (c3 + c4)) by omega]
    rw [show (2 : Nat) ^ 32 = 4294967296 from rfl, Nat.mul_add_div (by decide), Nat.div_eq_of_lt (by omega), Nat.add_zero]
  rw [bitS, e1, e2, e3, es, bc4, show (8 : Int32) = nI 8 from rfl, ushL (by omega) (by decide), lN_add, d1, bc5, show (16 : Int32) = nI 16 from rfl, ushL (by omega) (by decide), lN_add, d2, bc6, show (32 : Int32) = nI 32 from rfl, ushL (by omega) (by decide), lN_add, d3, lN_i, pk_and _ 7 (by decide), ← ep]
  congr 1
  show ((c0 + 256 * (c1 + 256 * (c2 + 256 * (c3 + 256 * c4))) + (c1 + 256 * (c2 + 256 * (c3 + 256 * c4))) + ((c2 + c3) + 256 * (c3 + c4) + 65536 * c4) + c4) % 2 ^ 32) % 2 ^ 7 = c0 + c1 + c2 + c3 + c4
  rw [show c0 + 256 * (c1 + 256 * (c2 + 256 * (c3 + 256 * c4))) + (c1 + 256 * (c2 + 256 * (c3 + 256 * c4))) + ((c2 + c3) + 256 * (c3 + c4) + 65536 * c4) + c4 = 4294967296 * c4 + (128 * (2 * (c1 + c2 + c3 + c4) + 512 * (c2 + c3 + c4) + 131072 * (c3 + c4)) + (c0 + c1 + c2 + c3 + c4)) by omega]
  rw [show (2 : Nat) ^ 32 = 4294967296 from rfl, Nat.mul_add_mod, Nat.mod_eq_of_lt (show 128 * (2 * (c1 + c2 + c3 + c4) + 512 * (c2 + c3 + c4) + 131072 * (c3 + c4)) + (c0 + c1 + c2 + c3 + c4) < 4294967296 by omega), show (2 : Nat) ^ 7 = 128 from rfl, Nat.mul_add_mod, Nat.mod_eq_of_lt (by omega)]
/-! sets of PAIRS as numbers -/
def knN (b : Nat → Bool) : Nat → Nat
  | 0 => 0
  | i + 1 => knN b i + (if b i then 2 ^ i else 0)
theorem knN_lt (b : Nat → Bool) : ∀ i, knN b i < 2 ^ i
  | 0 => by simp [knN]
  | i + 1 => by
    have := knN_lt b i
    rw [knN, Nat.pow_succ]
    split <;> omega
theorem sh1 : ∀ i : Fin 36, (1 : Int64) <<< ((nI i.val).toInt64 &&& 63) = lN (2 ^ i.val) := by decide +kernel
theorem kn_N (b : Nat → Bool) : ∀ i, i ≤ 36 → knF b i = lN (knN b i)
  | 0, _ => rfl
  | i + 1, h => by
    rw [knF, knN]
    cases b i with
    | true =>
      rw [if_pos rfl, if_pos rfl, kn_N b i (by omega), sh1 ⟨i, by omega⟩, fb_orL, Nat.or_comm]
      have e := Nat.two_pow_add_eq_or_of_lt (knN_lt b i) 1
      rw [Nat.mul_one] at e
      rw [← e, Nat.add_comm]
    | false => rw [if_neg (by decide), if_neg (by decide), kn_N b i (by omega), Nat.add_zero]
theorem kn_ex (b : Nat → Bool) : ∃ n, n < 2 ^ 36 ∧ knF b 36 = lN n := ⟨_, knN_lt b 36, kn_N b 36 (Nat.le_refl _)⟩
theorem unk_ex {n : Nat} : ∃ k, k < 2 ^ 36 ∧ unk (lN n) = lN k := by
  refine ⟨(n ^^^ (2 ^ 64 - 1)) % 2 ^ 36, Nat.mod_lt _ (by decide), ?_⟩
  rw [unk, show (-1 : Int64) = lN (2 ^ 64 - 1) from rfl, fb_xorL, show (68719476735 : Int64) = lN (2 ^ 36 - 1) from rfl, fb_andL, Nat.and_comm, Nat.and_two_pow_sub_one_eq_mod]
theorem pc_eq0 {k n : Nat} (hn : n < 2 ^ k) (h : pcN k n = 0) : n = 0 := by
  rcases Nat.eq_zero_or_pos n with z | z
  · exact z
  · have := pc_kern k n hn z; omega
set_option maxHeartbeats 400000 in
theorem c_M_ones_loop (X : Nat × (Nat → Int32)) (μ : Me) (x : Int64) (N : Nat) : ∀ (c n d : Nat), n < 2 ^ 40 → pcN 40 n = c → d + c = N → N < 2 ^ 31 → Wa X m_M_ones 0 4 [.long x, flr, .int (nI d), .long (lN n), flr] [] μ (fun r μ' => r = some (.int (nI N)) ∧ μ' = μ) := by
  intro c
  induction c with
  | zero =>
    intro n d hn hc hd hN
    have h0 := pc_eq0 hn hc
    subst h0
    refine r_lload_n 3 d_M_ones_4 rfl rfl ?_
    refine r_lconst 0 d_M_ones_5 rfl ?_
    refine r_lcmp d_M_ones_6 ?_
    refine r_if_eq d_M_ones_7 (fun h7 => ?_) (fun h7 => absurd (lc0.mpr rfl) h7)
    refine r_iload_n 2 d_M_ones_22 rfl rfl ?_
    refine r_iret .int d_M_ones_23 rfl rfl ?_
    exact ⟨by rw [← hd, Nat.add_zero], rfl⟩
  | succ c ih =>
    intro n d hn hc hd hN
    have hp : 0 < n := by
      rcases Nat.eq_zero_or_pos n with z | z
      · subst z; rw [pc_0] at hc; omega
      · exact z
    have hk := pc_kern 40 n hn hp
    refine r_lload_n 3 d_M_ones_4 rfl rfl ?_
    refine r_lconst 0 d_M_ones_5 rfl ?_
    refine r_lcmp d_M_ones_6 ?_
    refine r_if_eq d_M_ones_7 (fun h7 => absurd h7 (fun z => absurd ((fb_lN_inj (a := n) (b := 0) (by omega) (by decide)).mp (show lN n = lN 0 from lc0.mp z)) (by omega))) (fun h7 => ?_)
    first | refine r_iincN 2 [_, _, _, _, _] d_M_ones_10 (by decide) rfl rfl ?_ | refine r_iinc 2 [_, _, _, _, _] (1) d_M_ones_10 (by decide) (by decide) rfl rfl ?_
    refine r_lload_n 3 d_M_ones_13 rfl rfl ?_
    refine r_lload_n 3 d_M_ones_14 rfl rfl ?_
    refine r_lconst 1 d_M_ones_15 rfl ?_
    refine r_lsub d_M_ones_16 ?_
    rw [show (1 : Int64) = lN 1 from rfl, lN_sub (show 1 ≤ n from hp)]
    refine r_land d_M_ones_17 ?_
    rw [fb_andL]
    refine r_lstore_n 3 [_, _, _, _, _] d_M_ones_18 rfl (by decide) rfl ?_
    refine r_goto d_M_ones_19 ?_
    exact ih _ _ (Nat.lt_of_le_of_lt Nat.and_le_left hn) (by omega) (by omega) hN
set_option maxHeartbeats 400000 in
theorem c_M_ones {n : Nat} (hn : n < 2 ^ 40) (μ : Me) : CtI m_M_ones 0 [.long (lN n)] μ (nI (pcN 40 n)) μ := by
  refine Ct.of (ls := [.long (lN n), flr, flr, flr, flr]) rfl (Nat.le_of_ble_eq_true rfl) rfl (fun X => ?_)
  refine r_iconst 0 d_M_ones_0 rfl ?_
  refine r_istore_n 2 [_, _, _, _, _] d_M_ones_1 rfl (by decide) rfl ?_
  refine r_lload_n 0 d_M_ones_2 rfl rfl ?_
  refine r_lstore_n 3 [_, _, _, _, _] d_M_ones_3 rfl (by decide) rfl ?_
  exact c_M_ones_loop X μ _ _ _ n 0 hn rfl (by omega) (by have := pc_le 40 n; omega)
set_option maxHeartbeats 400000 in
theorem c_M_partOf_loop (X : Nat × (Nat → Int32)) (μ : Me) (a b p : Int32) (G : Nat) (hG : 0 < G ∧ G < 2 ^ 31) : ∀ (y x : Nat), x < 2 ^ 31 → y < 2 ^ 31 → Nat.gcd x y = G → ∀ z5 : Value, Wa X m_M_partOf 0 5 [.int a, .int b, .int p, .int (nI x), .int (nI y), z5] [] μ (fun r μ' => r = some (.int ((if p = 0 then a else b) / nI G)) ∧ μ' = μ) := by
  intro y
  induction y using Nat.strongRecOn with
  | _ y ih =>
    intro x hx hy hg z5
    rcases Nat.eq_zero_or_pos y with rfl | h0
    · rw [Nat.gcd_zero_right] at hg
      subst hg
      refine r_iload 4 d_M_partOf_5 rfl ?_
      refine r_if_eq d_M_partOf_7 (fun h7 => ?_) (fun h7 => absurd rfl h7)
      refine r_iload_n 2 d_M_partOf_26 rfl rfl ?_
      refine r_if_ne d_M_partOf_27 (fun h27 => ?_) (fun h27 => ?_)
      · refine r_iload_n 1 d_M_partOf_34 rfl rfl ?_
        refine r_iload_n 3 d_M_partOf_35 rfl rfl ?_
        refine r_idiv d_M_partOf_36 (nI_ne0 hG.1 hG.2) ?_
        refine r_iret .int d_M_partOf_37 rfl rfl ?_
        refine ⟨?_, rfl⟩
        first
          | rw [if_pos h27]
          | rw [if_neg h27]
      · refine r_iload_n 0 d_M_partOf_30 rfl rfl ?_
        refine r_goto d_M_partOf_31 ?_
        refine r_iload_n 3 d_M_partOf_35 rfl rfl ?_
        refine r_idiv d_M_partOf_36 (nI_ne0 hG.1 hG.2) ?_
        refine r_iret .int d_M_partOf_37 rfl rfl ?_
        refine ⟨?_, rfl⟩
        first
          | rw [if_pos h27]
          | rw [if_neg h27]
    · skip
      refine r_iload 4 d_M_partOf_5 rfl ?_
      refine r_if_eq d_M_partOf_7 (fun h7 => absurd h7 (nI_ne0 h0 hy)) (fun h7 => ?_)
      refine r_iload_n 3 d_M_partOf_10 rfl rfl ?_
      refine r_iload 4 d_M_partOf_11 rfl ?_
      refine r_irem d_M_partOf_13 (nI_ne0 h0 hy) ?_
      rw [pk_rem hx h0 hy]
      refine r_istore 5 [_, _, _, _, _, _] d_M_partOf_14 (by decide) rfl ?_
      refine r_iload 4 d_M_partOf_16 rfl ?_
      refine r_istore_n 3 [_, _, _, _, _, _] d_M_partOf_18 rfl (by decide) rfl ?_
      refine r_iload 5 d_M_partOf_19 rfl ?_
      refine r_istore 4 [_, _, _, _, _, _] d_M_partOf_21 (by decide) rfl ?_
      refine r_goto d_M_partOf_23 ?_
      refine ih (x % y) (Nat.mod_lt _ h0) y hy (Nat.lt_trans (Nat.mod_lt _ h0) hy) ?_ _
      rw [← hg, Nat.gcd_comm, ← Nat.gcd_rec, Nat.gcd_comm]
set_option maxHeartbeats 400000 in
theorem c_M_partOf {n d : Nat} (hn : n < 2 ^ 31) (hd : 0 < d) (hd2 : d < 2 ^ 31) (p : Int32) (μ : Me) : CtI m_M_partOf 0 [.int (nI n), .int (nI d), .int p] μ ((if p = 0 then nI n else nI d) / nI (Nat.gcd n d)) μ := by
  refine Ct.of (ls := [.int (nI n), .int (nI d), .int p, flr, flr, flr]) rfl (Nat.le_of_ble_eq_true rfl) rfl (fun X => ?_)
  have hg : Nat.gcd n d ≤ d := Nat.gcd_le_right n hd
  refine r_iload_n 0 d_M_partOf_0 rfl rfl ?_
  refine r_istore_n 3 [_, _, _, _, _, _] d_M_partOf_1 rfl (by decide) rfl ?_
  refine r_iload_n 1 d_M_partOf_2 rfl rfl ?_
  refine r_istore 4 [_, _, _, _, _, _] d_M_partOf_3 (by decide) rfl ?_
  exact c_M_partOf_loop X μ _ _ _ _ ⟨Nat.gcd_pos_of_pos_right n hd, by omega⟩ d n hn hd2 rfl _
theorem cd_spec (a b : Nat) : ∀ d, 0 < d → (cdF a b d ∣ a ∧ cdF a b d ∣ b) ∧ ∀ e, 0 < e → e ≤ d → e ∣ a → e ∣ b → e ≤ cdF a b d
  | 0, h => absurd h (Nat.lt_irrefl _)
  | d + 1, _ => by
    rw [cdF]
    by_cases h1 : d + 1 ≤ 1
    · rw [if_pos h1]
      exact ⟨⟨Nat.one_dvd _, Nat.one_dvd _⟩, fun e h2 h3 _ _ => by omega⟩
    · rw [if_neg h1]
      by_cases h2 : a % (d + 1) = 0 ∧ b % (d + 1) = 0
      · rw [if_pos h2]
        exact ⟨⟨Nat.dvd_of_mod_eq_zero h2.1, Nat.dvd_of_mod_eq_zero h2.2⟩, fun e _ h3 _ _ => h3⟩
      · rw [if_neg h2]
        have ih := cd_spec a b d (by omega)
        refine ⟨ih.1, fun e h3 h4 h5 h6 => ?_⟩
        rcases Nat.lt_or_ge d e with z | z
        · obtain rfl : e = d + 1 := by omega
          exact absurd ⟨Nat.mod_eq_zero_of_dvd h5, Nat.mod_eq_zero_of_dvd h6⟩ h2
        · exact ih.2 e h3 z h5 h6
theorem cd_gcd {a b : Nat} (hb : 0 < b) : cdF a b b = Nat.gcd a b := by
  have h := cd_spec a b b hb
  have hp := cdF_pos a b b
  refine Nat.le_antisymm (Nat.le_of_dvd (Nat.gcd_pos_of_pos_right a hb) (Nat.dvd_gcd h.1.1 h.1.2)) ?_
  exact h.2 _ (Nat.gcd_pos_of_pos_right a hb) (Nat.gcd_le_right a hb) (Nat.gcd_dvd_left a b) (Nat.gcd_dvd_right a b)
theorem bitN_e {n : Nat} (hn : n < 2 ^ 40) : bitN (lN n) = pcN 40 n := by
  have h1 := bitS_n (lN n)
  rw [bit_e hn] at h1
  have h2 := bitN_lt (lN n)
  have h3 := pc_le 40 n
  exact ((nI_eq (by omega) (by omega)).mp h1).symm
theorem bitN_kn (b : Nat → Bool) : ∃ n, n < 2 ^ 40 ∧ knF b 36 = lN n ∧ bitN (knF b 36) = pcN 40 n := by
  obtain ⟨n, h1, h2⟩ := kn_ex b
  exact ⟨n, by omega, h2, by rw [h2, bitN_e (by omega)]⟩
set_option maxHeartbeats 400000 in
theorem c_M_odds_bad {t w : Int32} (hP : ¬ ((1 ≤ t ∧ t ≤ 9) ∧ 0 ≤ w ∧ w ≤ 1)) (μ : Me) : CtI m_M_odds 7 [.ref 82, .int t, .int w] μ (-1) μ := by
  refine Ct.of (ls := [.ref 82, .int t, .int w, flr, flr]) rfl (Nat.le_of_ble_eq_true rfl) rfl (fun X => ?_)
  refine r_iload_n 1 d_M_odds_0 rfl rfl ?_
  refine r_callSi (c_M_isTime _ _) lk_M_142 d_M_odds_1 rfl rfl (Nat.le_of_ble_eq_true rfl) (by decide) ?_
  refine r_if_eq d_M_odds_4 (fun h4 => ?_) (fun h4 => ?_)
  · refine r_iconst (-1) d_M_odds_14 rfl ?_
    refine r_iret .int d_M_odds_15 rfl rfl ?_
    exact ⟨rfl, rfl⟩
  · refine r_iload_n 2 d_M_odds_7 rfl rfl ?_
    refine r_callSi (c_M_isSide _ _) lk_M_209 d_M_odds_8 rfl rfl (Nat.le_of_ble_eq_true rfl) (by decide) ?_
    refine r_if_ne d_M_odds_11 (fun h11 => ?_) (fun h11 => ?_)
    · exact absurd ⟨bz_p h4, bz_p h11⟩ hP
    · refine r_iconst (-1) d_M_odds_14 rfl ?_
      refine r_iret .int d_M_odds_15 rfl rfl ?_
      exact ⟨rfl, rfl⟩
set_option maxHeartbeats 400000 in
theorem c_M_odds_none {t w : Int32} (hP : (1 ≤ t ∧ t ≤ 9) ∧ 0 ≤ w ∧ w ≤ 1) (μ : Me) (hct : μ.1 83 0 = nI 0) : CtI m_M_odds 7 [.ref 82, .int t, .int w] μ (-3) μ := by
  refine Ct.of (ls := [.ref 82, .int t, .int w, flr, flr]) rfl (Nat.le_of_ble_eq_true rfl) rfl (fun X => ?_)
  refine r_iload_n 1 d_M_odds_0 rfl rfl ?_
  refine r_callSi (c_M_isTime _ _) lk_M_142 d_M_odds_1 rfl rfl (Nat.le_of_ble_eq_true rfl) (by decide) ?_
  refine r_if_eq d_M_odds_4 (fun h4 => absurd h4 (bzy hP.1)) (fun h4 => ?_)
  refine r_iload_n 2 d_M_odds_7 rfl rfl ?_
  refine r_callSi (c_M_isSide _ _) lk_M_209 d_M_odds_8 rfl rfl (Nat.le_of_ble_eq_true rfl) (by decide) ?_
  refine r_if_ne d_M_odds_11 (fun h11 => ?_) (fun h11 => absurd h11 (bzy hP.2))
  refine r_aload_n 0 d_M_odds_16 rfl rfl ?_
  refine r_getR fl_M_7 (by first | with_reducible assumption | rfl) rfl d_M_odds_17 ?_
  refine r_iconst 0 d_M_odds_20 rfl ?_
  refine r_ialdN (j := 0) (by first | with_reducible assumption | rfl) (by first | with_reducible assumption | omega | decide | assumption) d_M_odds_21 ?_
  refine r_if_ne d_M_odds_22 (fun h22 => absurd hct h22) (fun h22 => ?_)
  refine r_bipush (-3) d_M_odds_25 (by decide) ?_
  refine r_iret .int d_M_odds_27 rfl rfl ?_
  exact ⟨rfl, rfl⟩
def mkn (g : Nat → Int32) (t : Int32) (w : Nat → Int32) (l : Nat) : Int64 := knF (kb g 0 l t w) 36
set_option maxHeartbeats 400000 in
theorem c_M_odds {t w : Int32} {m : Nat} (hP : (1 ≤ t ∧ t ≤ 9) ∧ 0 ≤ w ∧ w ≤ 1) (h0 : 0 < m) (hm : m ≤ 4) (μ : Me) (hct : μ.1 83 0 = nI m) (hat : μ.1 82 1 = nI 0) (hO : ∀ l, l < m → LO (μ.1 83) 0 l) : CtI m_M_odds 7 [.ref 82, .int t, .int w] μ (if w = 0 then nI (abF (mkn (μ.1 83) t (μ.1 84)) m / cdF (abF (mkn (μ.1 83) t (μ.1 84)) m) (m * 36) (m * 36)) else nI (m * 36 / cdF (abF (mkn (μ.1 83) t (μ.1 84)) m) (m * 36) (m * 36))) μ := by
  refine Ct.of (ls := [.ref 82, .int t, .int w, flr, flr]) rfl (Nat.le_of_ble_eq_true rfl) rfl (fun X => ?_)
  refine r_iload_n 1 d_M_odds_0 rfl rfl ?_
  refine r_callSi (c_M_isTime _ _) lk_M_142 d_M_odds_1 rfl rfl (Nat.le_of_ble_eq_true rfl) (by decide) ?_
  refine r_if_eq d_M_odds_4 (fun h4 => absurd h4 (bzy hP.1)) (fun h4 => ?_)
  refine r_iload_n 2 d_M_odds_7 rfl rfl ?_
  refine r_callSi (c_M_isSide _ _) lk_M_209 d_M_odds_8 rfl rfl (Nat.le_of_ble_eq_true rfl) (by decide) ?_
  refine r_if_ne d_M_odds_11 (fun h11 => ?_) (fun h11 => absurd h11 (bzy hP.2))
  refine r_aload_n 0 d_M_odds_16 rfl rfl ?_
  refine r_getR fl_M_7 (by first | with_reducible assumption | rfl) rfl d_M_odds_17 ?_
  refine r_iconst 0 d_M_odds_20 rfl ?_
  refine r_ialdN (j := 0) (by first | with_reducible assumption | rfl) (by first | with_reducible assumption | omega | decide | assumption) d_M_odds_21 ?_
  refine r_if_ne d_M_odds_22 (fun h22 => ?_) (fun h22 => absurd h22 (fun z => absurd (hct ▸ z) (nI_ne0 h0 (by omega))))
  refine r_iconst 0 d_M_odds_28 rfl ?_
  refine r_istore_n 3 [_, _, _, _, _] d_M_odds_29 rfl (by decide) rfl ?_
  refine r_iconst 0 d_M_odds_30 rfl ?_
  refine r_istore 4 [_, _, _, _, _] d_M_odds_31 (by decide) rfl ?_
  refine lpN m (fun l (c : Nat) => Wa X m_M_odds 7 33 [.ref 82, .int t, .int w, .int (nI c), .int (nI l)] [] μ _) (fun l c => c = abF (mkn (μ.1 83) t (μ.1 84)) l) ?_ 0 0 (Nat.zero_le _) rfl
  intro l c hl hc hk
  refine r_iload 4 d_M_odds_33 rfl ?_
  refine r_aload_n 0 d_M_odds_35 rfl rfl ?_
  refine r_getR fl_M_7 (by first | with_reducible assumption | rfl) rfl d_M_odds_36 ?_
  refine r_iconst 0 d_M_odds_39 rfl ?_
  refine r_ialdN (j := 0) (by first | with_reducible assumption | rfl) (by first | with_reducible assumption | omega | decide | assumption) d_M_odds_40 ?_
  rw [hct]
  refine r_icmp_ge d_M_odds_41 (fun h41 => ?_) (fun h41 => ?_)
  · have hge := n_le h41 rfl rfl (by omega) (by omega)
    obtain rfl : l = m := by omega
    have hab := abF_le (mkn (μ.1 83) t (μ.1 84)) l
    refine r_iload_n 3 d_M_odds_63 rfl rfl ?_
    refine r_bipush (36) d_M_odds_64 (by decide) ?_
    refine r_aload_n 0 d_M_odds_66 rfl rfl ?_
    refine r_getR fl_M_7 (by first | with_reducible assumption | rfl) rfl d_M_odds_67 ?_
    refine r_iconst 0 d_M_odds_70 rfl ?_
    refine r_ialdN (j := 0) (by first | with_reducible assumption | rfl) (by first | with_reducible assumption | omega | decide | assumption) d_M_odds_71 ?_
    rw [hct]
    refine r_imul d_M_odds_72 ?_
    rw [show (36 : Int32) * nI l = nI (36 * l) from pk_mul 36 l, Nat.mul_comm 36 l]
    refine r_iload_n 2 d_M_odds_73 rfl rfl ?_
    refine r_callSi (c_M_partOf (by omega) (by omega) (by omega) _ _) lk_M_216 d_M_odds_74 rfl rfl (Nat.le_of_ble_eq_true rfl) (by decide) ?_
    refine r_iret .int d_M_odds_77 rfl rfl ?_
    refine ⟨?_, rfl⟩
    have hg1 : 0 < Nat.gcd c (l * 36) := Nat.gcd_pos_of_pos_right c (by omega)
    have hg2 : Nat.gcd c (l * 36) ≤ l * 36 := Nat.gcd_le_right c (by omega)
    rw [← hc, cd_gcd (by omega)]
    by_cases hw0 : w = 0
    · rw [if_pos hw0, if_pos hw0, pk_div (by omega) hg1 (by omega)]
    · rw [if_neg hw0, if_neg hw0, pk_div (by omega) hg1 (by omega)]
  · have hll : l < m := n_lt h41 rfl rfl (by omega) (by omega)
    obtain ⟨n, hn, en, eb⟩ := bitN_kn (kb (μ.1 83) 0 l t (μ.1 84))
    have ck := c_M_knownSet (A := 0) (by decide) (show l < 4 by omega) t hP.1 μ hat (hO l hll)
    rw [en] at ck
    refine r_iload_n 3 d_M_odds_44 rfl rfl ?_
    refine r_aload_n 0 d_M_odds_45 rfl rfl ?_
    refine r_iload 4 d_M_odds_46 rfl ?_
    refine r_iload_n 1 d_M_odds_48 rfl rfl ?_
    refine r_callVl ck lk_M_196 (by first | with_reducible assumption | rfl) d_M_odds_49 rfl rfl (Nat.le_of_ble_eq_true rfl) (by decide) ?_
    refine r_callSi (c_M_ones hn _) lk_M_212 d_M_odds_52 rfl rfl (Nat.le_of_ble_eq_true rfl) (by decide) ?_
    refine r_iadd d_M_odds_55 ?_
    rw [nI_add]
    refine r_istore_n 3 [_, _, _, _, _] d_M_odds_56 rfl (by decide) rfl ?_
    first | refine r_iincN 4 [_, _, _, _, _] d_M_odds_57 (by decide) rfl rfl ?_ | refine r_iinc 4 [_, _, _, _, _] (1) d_M_odds_57 (by decide) (by decide) rfl rfl ?_
    refine r_goto d_M_odds_60 ?_
    refine hk _ hll ?_
    rw [abF, mkn, eb, hc]
/-! one drawn -/
theorem bit1 {n p : Nat} (hn : n < 2 ^ 63) (hp : p < 64) : (lN n >>> ((nI p).toInt64 &&& 63)) &&& 1 = lN (n / 2 ^ p % 2) := by
  rw [shrL hn hp, show (1 : Int64) = lN (2 ^ 1 - 1) from rfl, fb_andL, Nat.and_two_pow_sub_one_eq_mod, Nat.pow_one]
theorem bit1u {n p : Nat} (hn : n < 2 ^ 63) (hp : p < 64) : ush (lN n) (nI p) &&& 1 = lN (n / 2 ^ p % 2) := by
  rw [ushL hn hp, show (1 : Int64) = lN (2 ^ 1 - 1) from rfl, fb_andL, Nat.and_two_pow_sub_one_eq_mod, Nat.pow_one]
set_option maxHeartbeats 400000 in
theorem c_M_draw_loop (X : Nat × (Nat → Int32)) (μ : Me) (l t : Int32) (n : Nat) (hn : n < 2 ^ 36) : ∀ (k p c : Nat), p + k = 36 → c < pcN k (n / 2 ^ p) → Wa X m_M_draw 7 74 [.ref 82, .int l, .int t, .long (lN n), flr, .int (nI c), .int (nI p)] [] μ (fun r μ' => r = some (.int (mbF (lN n) k p (nI c))) ∧ μ' = μ) := by
  intro k
  induction k with
  | zero => intro p c _ h; rw [pcN] at h; omega
  | succ k ih =>
    intro p c hp hc
    have hc40 : c < 40 := Nat.lt_of_lt_of_le hc (Nat.le_trans (pc_le _ _) (by omega))
    rw [pcN] at hc
    have e2 : n / 2 ^ p / 2 = n / 2 ^ (p + 1) := by rw [Nat.div_div_eq_div_mul, Nat.pow_succ]
    rw [e2] at hc
    have b1 := bit1 (n := n) (p := p) (by omega) (by omega)
    have b2 := bit1u (n := n) (p := p) (by omega) (by omega)
    rw [mbF, b2]
    rcases Nat.mod_two_eq_zero_or_one (n / 2 ^ p) with hb | hb
    · rw [hb] at b1 hc
      rw [hb, if_neg (show ¬ lg_cmp (lN 0) 1 = 0 by decide)]
      refine r_lload_n 3 d_M_draw_74 rfl rfl ?_
      refine r_iload 6 d_M_draw_75 rfl ?_
      refine r_lshr d_M_draw_77 ?_
      refine r_lconst 1 d_M_draw_78 rfl ?_
      refine r_land d_M_draw_79 ?_
      rw [b1]
      refine r_lconst 0 d_M_draw_80 rfl ?_
      refine r_lcmp d_M_draw_81 ?_
      refine r_if_eq d_M_draw_82 (fun h82 => ?_) (fun h82 => absurd (lc0.mpr rfl) h82)
      refine r_iload 5 d_M_draw_90 rfl ?_
      refine r_lload_n 3 d_M_draw_92 rfl rfl ?_
      refine r_iload 6 d_M_draw_93 rfl ?_
      refine r_lshr d_M_draw_95 ?_
      refine r_lconst 1 d_M_draw_96 rfl ?_
      refine r_land d_M_draw_97 ?_
      rw [b1]
      refine r_l2i d_M_draw_98 ?_
      rw [lN_i]
      refine r_isub d_M_draw_99 ?_
      rw [show nI c - nI 0 = nI c from Int32.sub_zero _]
      refine r_istore 5 [_, _, _, _, _, _, _] d_M_draw_100 (by decide) rfl ?_
      first | refine r_iincN 6 [_, _, _, _, _, _, _] d_M_draw_102 (by decide) rfl rfl ?_ | refine r_iinc 6 [_, _, _, _, _, _, _] (1) d_M_draw_102 (by decide) (by decide) rfl rfl ?_
      refine r_goto d_M_draw_105 ?_
      exact ih (p + 1) c (by omega) (by omega)
    · rw [hb] at b1 hc
      rw [hb, if_pos (show lg_cmp (lN 1) 1 = 0 by decide)]
      rcases Nat.eq_zero_or_pos c with rfl | h0
      · rw [if_pos (show nI 0 = 0 from rfl)]
        refine r_lload_n 3 d_M_draw_74 rfl rfl ?_
        refine r_iload 6 d_M_draw_75 rfl ?_
        refine r_lshr d_M_draw_77 ?_
        refine r_lconst 1 d_M_draw_78 rfl ?_
        refine r_land d_M_draw_79 ?_
        rw [b1]
        refine r_lconst 0 d_M_draw_80 rfl ?_
        refine r_lcmp d_M_draw_81 ?_
        refine r_if_eq d_M_draw_82 (fun h82 => absurd h82 (fun z => absurd ((fb_lN_inj (a := 1) (b := 0) (by decide) (by decide)).mp (show lN 1 = lN 0 from lc0.mp z)) (by decide))) (fun h82 => ?_)
        refine r_iload 5 d_M_draw_85 rfl ?_
        refine r_if_le d_M_draw_87 (fun h87 => ?_) (fun h87 => absurd (by decide) h87)
        refine r_iload 6 d_M_draw_108 rfl ?_
        refine r_iret .int d_M_draw_110 rfl rfl ?_
        exact ⟨rfl, rfl⟩
      · rw [if_neg (nI_ne0 h0 (by omega))]
        have e1 : nI c + -1 = nI (c - 1) := by
          have := pk_m1 (c - 1)
          rw [show c - 1 + 1 = c by omega] at this
          exact this
        rw [e1]
        refine r_lload_n 3 d_M_draw_74 rfl rfl ?_
        refine r_iload 6 d_M_draw_75 rfl ?_
        refine r_lshr d_M_draw_77 ?_
        refine r_lconst 1 d_M_draw_78 rfl ?_
        refine r_land d_M_draw_79 ?_
        rw [b1]
        refine r_lconst 0 d_M_draw_80 rfl ?_
        refine r_lcmp d_M_draw_81 ?_
        refine r_if_eq d_M_draw_82 (fun h82 => absurd h82 (fun z => absurd ((fb_lN_inj (a := 1) (b := 0) (by decide) (by decide)).mp (show lN 1 = lN 0 from lc0.mp z)) (by decide))) (fun h82 => ?_)
        refine r_iload 5 d_M_draw_85 rfl ?_
        refine r_if_le d_M_draw_87 (fun h87 => absurd h87 (fun z => absurd ((nI_leI (b := 0) (by omega) (by decide)).mp z) (by omega))) (fun h87 => ?_)
        refine r_iload 5 d_M_draw_90 rfl ?_
        refine r_lload_n 3 d_M_draw_92 rfl rfl ?_
        refine r_iload 6 d_M_draw_93 rfl ?_
        refine r_lshr d_M_draw_95 ?_
        refine r_lconst 1 d_M_draw_96 rfl ?_
        refine r_land d_M_draw_97 ?_
        rw [b1]
        refine r_l2i d_M_draw_98 ?_
        rw [lN_i]
        refine r_isub d_M_draw_99 ?_
        rw [pk_sub (show 1 ≤ c from h0)]
        refine r_istore 5 [_, _, _, _, _, _, _] d_M_draw_100 (by decide) rfl ?_
        first | refine r_iincN 6 [_, _, _, _, _, _, _] d_M_draw_102 (by decide) rfl rfl ?_ | refine r_iinc 6 [_, _, _, _, _, _, _] (1) d_M_draw_102 (by decide) (by decide) rfl rfl ?_
        refine r_goto d_M_draw_105 ?_
        exact ih (p + 1) (c - 1) (by omega) (by omega)
set_option maxHeartbeats 400000 in
theorem c_M_draw_no {m : Nat} (hm : m ≤ 4) (l t : Int32) (μ : Me) (hct : μ.1 83 0 = nI m) (hG : ¬ ((0 ≤ l ∧ l < nI m) ∧ 1 ≤ t ∧ t ≤ 9)) : CtI m_M_draw 7 [.ref 82, .int l, .int t] μ (-1) μ := by
  refine Ct.of (ls := [.ref 82, .int l, .int t, flr, flr, flr, flr]) rfl (Nat.le_of_ble_eq_true rfl) rfl (fun X => ?_)
  refine r_aload_n 0 d_M_draw_0 rfl rfl ?_
  refine r_iload_n 1 d_M_draw_1 rfl rfl ?_
  refine r_callVi (c_M_isLearner hm _ _ hct) lk_M_115 (by first | with_reducible assumption | rfl) d_M_draw_2 rfl rfl (Nat.le_of_ble_eq_true rfl) (by decide) ?_
  refine r_if_eq d_M_draw_5 (fun h5 => ?_) (fun h5 => ?_)
  · refine r_iconst (-1) d_M_draw_15 rfl ?_
    refine r_iret .int d_M_draw_16 rfl rfl ?_
    exact ⟨rfl, rfl⟩
  · refine r_iload_n 2 d_M_draw_8 rfl rfl ?_
    refine r_callSi (c_M_isTime _ _) lk_M_142 d_M_draw_9 rfl rfl (Nat.le_of_ble_eq_true rfl) (by decide) ?_
    refine r_if_ne d_M_draw_12 (fun h12 => ?_) (fun h12 => ?_)
    · exact absurd ⟨bz_p h5, bz_p h12⟩ hG
    · refine r_iconst (-1) d_M_draw_15 rfl ?_
      refine r_iret .int d_M_draw_16 rfl rfl ?_
      exact ⟨rfl, rfl⟩
theorem ush16 (z : Int32) : ∃ c, c < 65536 ∧ ush32 z 16 = nI c := by
  refine ⟨z.toBitVec.toNat / 2 ^ 16, ?_, ?_⟩
  · have := z.toBitVec.isLt; omega
  · have h := pk_ushr z 16 16 (by decide)
    apply Int32.toBitVec_inj.1
    apply BitVec.eq_of_toNat_eq
    rw [ush32, h]
    show _ = (z.toBitVec.toNat / 2 ^ 16) % 2 ^ 32
    have := z.toBitVec.isLt
    omega
set_option maxHeartbeats 400000 in
theorem c_M_draw {m j : Nat} (hm : m ≤ 4) (hj : j < m) (t : Int32) (ht : 1 ≤ t ∧ t ≤ 9) (μ : Me) (hct : μ.1 83 0 = nI m) (hat : μ.1 82 1 = nI 0) (hO : LO (μ.1 83) 0 j) : CtI m_M_draw 7 [.ref 82, .int (nI j), .int t] μ (if bitS (unk (mkn (μ.1 83) t (μ.1 84) j)) = 0 then -3 else mbF (unk (mkn (μ.1 83) t (μ.1 84) j)) 36 0 (plcZ (nextZ (μ.1 82 4)) (bitS (unk (mkn (μ.1 83) t (μ.1 84) j))))) (if bitS (unk (mkn (μ.1 83) t (μ.1 84) j)) = 0 then μ else uI μ 82 4 (nextZ (μ.1 82 4))) := by
  refine Ct.of (ls := [.ref 82, .int (nI j), .int t, flr, flr, flr, flr]) rfl (Nat.le_of_ble_eq_true rfl) rfl (fun X => ?_)
  obtain ⟨n0, -, e0⟩ := kn_ex (kb (μ.1 83) 0 j t (μ.1 84))
  obtain ⟨n, hn, en⟩ := unk_ex (n := n0)
  have ck := c_M_knownSet (A := 0) (by decide) (show j < 4 by omega) t ht μ hat hO
  have ek : mkn (μ.1 83) t (μ.1 84) j = lN n0 := e0
  rw [e0] at ck
  rw [ek, en, bit_e (by omega)]
  have eu : (68719476735 : Int64) &&& (lN n0 ^^^ -1) = lN n := en
  rcases Nat.eq_zero_or_pos n with h0 | h0
  · subst h0
    rw [pc_0, if_pos (show nI 0 = 0 from rfl), if_pos (show nI 0 = 0 from rfl)]
    refine r_aload_n 0 d_M_draw_0 rfl rfl ?_
    refine r_iload_n 1 d_M_draw_1 rfl rfl ?_
    refine r_callVi (c_M_isLearner hm _ _ hct) lk_M_115 (by first | with_reducible assumption | rfl) d_M_draw_2 rfl rfl (Nat.le_of_ble_eq_true rfl) (by decide) ?_
    refine r_if_eq d_M_draw_5 (fun h5 => absurd h5 (bzy (nIb hj hm))) (fun h5 => ?_)
    refine r_iload_n 2 d_M_draw_8 rfl rfl ?_
    refine r_callSi (c_M_isTime _ _) lk_M_142 d_M_draw_9 rfl rfl (Nat.le_of_ble_eq_true rfl) (by decide) ?_
    refine r_if_ne d_M_draw_12 (fun h12 => ?_) (fun h12 => absurd h12 (bzy ht))
    refine r_callSl (c_M_all _) lk_M_205 d_M_draw_17 rfl rfl (Nat.le_of_ble_eq_true rfl) (by decide) ?_
    refine r_aload_n 0 d_M_draw_20 rfl rfl ?_
    refine r_iload_n 1 d_M_draw_21 rfl rfl ?_
    refine r_iload_n 2 d_M_draw_22 rfl rfl ?_
    refine r_callVl ck lk_M_196 (by first | with_reducible assumption | rfl) d_M_draw_23 rfl rfl (Nat.le_of_ble_eq_true rfl) (by decide) ?_
    refine r_ldc2 kc_M_104 d_M_draw_26 ?_
    refine r_lxor d_M_draw_29 ?_
    refine r_land d_M_draw_30 ?_
    rw [eu]
    refine r_lstore_n 3 [_, _, _, _, _, _, _] d_M_draw_31 rfl (by decide) rfl ?_
    refine r_lload_n 3 d_M_draw_32 rfl rfl ?_
    refine r_lconst 0 d_M_draw_33 rfl ?_
    refine r_lcmp d_M_draw_34 ?_
    refine r_if_ne d_M_draw_35 (fun h35 => absurd (lc0.mpr rfl) h35) (fun h35 => ?_)
    refine r_bipush (-3) d_M_draw_38 (by decide) ?_
    refine r_iret .int d_M_draw_40 rfl rfl ?_
    exact ⟨rfl, rfl⟩
  · have hk := pc_kern 40 n (by omega) h0
    have hl := pc_le 40 n
    have hne : ¬ nI (pcN 40 n) = 0 := nI_ne0 (by omega) (by omega)
    rw [if_neg hne, if_neg hne]
    obtain ⟨c, hc, ec⟩ := ush16 (nextZ (μ.1 82 4))
    have ez : plcZ (nextZ (μ.1 82 4)) (nI (pcN 40 n)) = nI (c % pcN 40 n) := by
      rw [plcZ, ec, pk_rem (by omega) (by omega) (by omega)]
    rw [ez]
    have p36 : pcN 40 n = pcN 36 n := pc_more 36 n hn 4
    refine r_aload_n 0 d_M_draw_0 rfl rfl ?_
    refine r_iload_n 1 d_M_draw_1 rfl rfl ?_
    refine r_callVi (c_M_isLearner hm _ _ hct) lk_M_115 (by first | with_reducible assumption | rfl) d_M_draw_2 rfl rfl (Nat.le_of_ble_eq_true rfl) (by decide) ?_
    refine r_if_eq d_M_draw_5 (fun h5 => absurd h5 (bzy (nIb hj hm))) (fun h5 => ?_)
    refine r_iload_n 2 d_M_draw_8 rfl rfl ?_
    refine r_callSi (c_M_isTime _ _) lk_M_142 d_M_draw_9 rfl rfl (Nat.le_of_ble_eq_true rfl) (by decide) ?_
    refine r_if_ne d_M_draw_12 (fun h12 => ?_) (fun h12 => absurd h12 (bzy ht))
    refine r_callSl (c_M_all _) lk_M_205 d_M_draw_17 rfl rfl (Nat.le_of_ble_eq_true rfl) (by decide) ?_
    refine r_aload_n 0 d_M_draw_20 rfl rfl ?_
    refine r_iload_n 1 d_M_draw_21 rfl rfl ?_
    refine r_iload_n 2 d_M_draw_22 rfl rfl ?_
    refine r_callVl ck lk_M_196 (by first | with_reducible assumption | rfl) d_M_draw_23 rfl rfl (Nat.le_of_ble_eq_true rfl) (by decide) ?_
    refine r_ldc2 kc_M_104 d_M_draw_26 ?_
    refine r_lxor d_M_draw_29 ?_
    refine r_land d_M_draw_30 ?_
    rw [eu]
    refine r_lstore_n 3 [_, _, _, _, _, _, _] d_M_draw_31 rfl (by decide) rfl ?_
    refine r_lload_n 3 d_M_draw_32 rfl rfl ?_
    refine r_lconst 0 d_M_draw_33 rfl ?_
    refine r_lcmp d_M_draw_34 ?_
    refine r_if_ne d_M_draw_35 (fun h35 => ?_) (fun h35 => absurd h35 (fun z => absurd ((fb_lN_inj (a := n) (b := 0) (by omega) (by decide)).mp (show lN n = lN 0 from lc0.mp z)) (by omega)))
    refine r_aload_n 0 d_M_draw_41 rfl rfl ?_
    refine r_aload_n 0 d_M_draw_42 rfl rfl ?_
    refine r_getI fl_M_19 (by first | with_reducible assumption | rfl) rfl d_M_draw_43 ?_
    refine r_ldc_w kc_M_294 d_M_draw_46 ?_
    refine r_imul d_M_draw_49 ?_
    refine r_sipush (12345) d_M_draw_50 (by decide) ?_
    refine r_iadd d_M_draw_53 ?_
    refine r_putI fp_M_19 (by first | with_reducible assumption | rfl) rfl d_M_draw_54 ?_
    refine r_aload_n 0 d_M_draw_57 rfl rfl ?_
    refine r_getI fl_M_19 (by first | with_reducible assumption | rfl) rfl d_M_draw_58 ?_
    rw [uI_at]
    refine r_bipush (16) d_M_draw_61 (by decide) ?_
    refine r_iushr d_M_draw_63 ?_
    rw [show ((μ.1 82 4 * 1103515245 + 12345).toUInt32 >>> ((16 : Int32).toUInt32 &&& Int32.toUInt32 31)).toInt32 = nI c from ec]
    refine r_lload_n 3 d_M_draw_64 rfl rfl ?_
    refine r_callSi (c_M_ones (by omega) _) lk_M_212 d_M_draw_65 rfl rfl (Nat.le_of_ble_eq_true rfl) (by decide) ?_
    refine r_irem d_M_draw_68 hne ?_
    rw [pk_rem (by omega) (by omega) (by omega)]
    refine r_istore 5 [_, _, _, _, _, _, _] d_M_draw_69 (by decide) rfl ?_
    refine r_iconst 0 d_M_draw_71 rfl ?_
    refine r_istore 6 [_, _, _, _, _, _, _] d_M_draw_72 (by decide) rfl ?_
    refine c_M_draw_loop X (uI μ 82 4 (nextZ (μ.1 82 4))) _ _ n hn 36 0 (c % pcN 40 n) (by decide) ?_
    rw [Nat.pow_zero, Nat.div_one, ← p36]
    exact Nat.mod_lt _ (by omega)
