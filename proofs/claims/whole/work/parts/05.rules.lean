/-! the rules: an instruction, a row -/
def Dc (mt : MT) (pc : Nat) (i : Instr) (len n : Nat) : Prop := decode mt.2.1 pc = .ok (i, len) ∧ pc + len = n
def Dj (mt : MT) (pc : Nat) (i : Int → Instr) (n tgt : Nat) : Prop := ∃ off : Int, decode mt.2.1 pc = .ok (i off, 3) ∧ pc + 3 = n ∧ (pc : Int) + off = (tgt : Int)
section Rules
variable {X : Nat × (Nat → Int32)} {mt : MT} {d pc n : Nat} {ls st : List Value} {μ : Me} {Q : Option Value → Me → Prop}
theorem r_iadd {x y : Int32} (hd : Dc mt pc .iadd 1 n) (k : Wa X mt d n ls (.int (x + y) :: st) μ Q) : Wa X mt d pc ls (.int y :: .int x :: st) μ Q := by
  intro p l e R s m args below meth c D cA ta b0 H locs lsA cells slots Fin C hP hS hl hF
  obtain ⟨hd, rfl⟩ := hd
  exact lv_iadd C.1 C.2.1 hd (k p l e R s m args below meth c D cA ta b0 H locs lsA cells slots Fin C hP hS hl hF)
theorem r_isub {x y : Int32} (hd : Dc mt pc .isub 1 n) (k : Wa X mt d n ls (.int (x - y) :: st) μ Q) : Wa X mt d pc ls (.int y :: .int x :: st) μ Q := by
  intro p l e R s m args below meth c D cA ta b0 H locs lsA cells slots Fin C hP hS hl hF
  obtain ⟨hd, rfl⟩ := hd
  exact lv_isub C.1 C.2.1 hd (k p l e R s m args below meth c D cA ta b0 H locs lsA cells slots Fin C hP hS hl hF)
theorem r_imul {x y : Int32} (hd : Dc mt pc .imul 1 n) (k : Wa X mt d n ls (.int (x * y) :: st) μ Q) : Wa X mt d pc ls (.int y :: .int x :: st) μ Q := by
  intro p l e R s m args below meth c D cA ta b0 H locs lsA cells slots Fin C hP hS hl hF
  obtain ⟨hd, rfl⟩ := hd
  exact lv_imul C.1 C.2.1 hd (k p l e R s m args below meth c D cA ta b0 H locs lsA cells slots Fin C hP hS hl hF)
theorem r_iand {x y : Int32} (hd : Dc mt pc .iand 1 n) (k : Wa X mt d n ls (.int (x &&& y) :: st) μ Q) : Wa X mt d pc ls (.int y :: .int x :: st) μ Q := by
  intro p l e R s m args below meth c D cA ta b0 H locs lsA cells slots Fin C hP hS hl hF
  obtain ⟨hd, rfl⟩ := hd
  exact lv_iand C.1 C.2.1 hd (k p l e R s m args below meth c D cA ta b0 H locs lsA cells slots Fin C hP hS hl hF)
theorem r_ior {x y : Int32} (hd : Dc mt pc .ior 1 n) (k : Wa X mt d n ls (.int (x ||| y) :: st) μ Q) : Wa X mt d pc ls (.int y :: .int x :: st) μ Q := by
  intro p l e R s m args below meth c D cA ta b0 H locs lsA cells slots Fin C hP hS hl hF
  obtain ⟨hd, rfl⟩ := hd
  exact lv_ior C.1 C.2.1 hd (k p l e R s m args below meth c D cA ta b0 H locs lsA cells slots Fin C hP hS hl hF)
theorem r_ixor {x y : Int32} (hd : Dc mt pc .ixor 1 n) (k : Wa X mt d n ls (.int (x ^^^ y) :: st) μ Q) : Wa X mt d pc ls (.int y :: .int x :: st) μ Q := by
  intro p l e R s m args below meth c D cA ta b0 H locs lsA cells slots Fin C hP hS hl hF
  obtain ⟨hd, rfl⟩ := hd
  exact lv_ixor C.1 C.2.1 hd (k p l e R s m args below meth c D cA ta b0 H locs lsA cells slots Fin C hP hS hl hF)
theorem r_ishl {x y : Int32} (hd : Dc mt pc .ishl 1 n) (k : Wa X mt d n ls (.int (x <<< (y &&& 31)) :: st) μ Q) : Wa X mt d pc ls (.int y :: .int x :: st) μ Q := by
  intro p l e R s m args below meth c D cA ta b0 H locs lsA cells slots Fin C hP hS hl hF
  obtain ⟨hd, rfl⟩ := hd
  exact lv_ishl C.1 C.2.1 hd (k p l e R s m args below meth c D cA ta b0 H locs lsA cells slots Fin C hP hS hl hF)
theorem r_ishr {x y : Int32} (hd : Dc mt pc .ishr 1 n) (k : Wa X mt d n ls (.int (x >>> (y &&& 31)) :: st) μ Q) : Wa X mt d pc ls (.int y :: .int x :: st) μ Q := by
  intro p l e R s m args below meth c D cA ta b0 H locs lsA cells slots Fin C hP hS hl hF
  obtain ⟨hd, rfl⟩ := hd
  exact lv_ishr C.1 C.2.1 hd (k p l e R s m args below meth c D cA ta b0 H locs lsA cells slots Fin C hP hS hl hF)
theorem r_iushr {x y : Int32} (hd : Dc mt pc .iushr 1 n) (k : Wa X mt d n ls (.int ((x.toUInt32 >>> (y.toUInt32 &&& Int32.toUInt32 31)).toInt32) :: st) μ Q) : Wa X mt d pc ls (.int y :: .int x :: st) μ Q := by
  intro p l e R s m args below meth c D cA ta b0 H locs lsA cells slots Fin C hP hS hl hF
  obtain ⟨hd, rfl⟩ := hd
  exact lv_iushr C.1 C.2.1 hd rfl (k p l e R s m args below meth c D cA ta b0 H locs lsA cells slots Fin C hP hS hl hF)
theorem r_idiv {x y : Int32} (hd : Dc mt pc .idiv 1 n) (hy : ¬ y = 0) (k : Wa X mt d n ls (.int (x / y) :: st) μ Q) : Wa X mt d pc ls (.int y :: .int x :: st) μ Q := by
  intro p l e R s m args below meth c D cA ta b0 H locs lsA cells slots Fin C hP hS hl hF
  obtain ⟨hd, rfl⟩ := hd
  exact lv_idiv C.1 C.2.1 hd hy (k p l e R s m args below meth c D cA ta b0 H locs lsA cells slots Fin C hP hS hl hF)
theorem r_irem {x y : Int32} (hd : Dc mt pc .irem 1 n) (hy : ¬ y = 0) (k : Wa X mt d n ls (.int (x - x / y * y) :: st) μ Q) : Wa X mt d pc ls (.int y :: .int x :: st) μ Q := by
  intro p l e R s m args below meth c D cA ta b0 H locs lsA cells slots Fin C hP hS hl hF
  obtain ⟨hd, rfl⟩ := hd
  exact lv_irem C.1 C.2.1 hd hy (k p l e R s m args below meth c D cA ta b0 H locs lsA cells slots Fin C hP hS hl hF)
theorem r_ladd {x y : Int64} (hd : Dc mt pc .ladd 1 n) (k : Wa X mt d n ls (.long (x + y) :: st) μ Q) : Wa X mt d pc ls (.long y :: .long x :: st) μ Q := by
  intro p l e R s m args below meth c D cA ta b0 H locs lsA cells slots Fin C hP hS hl hF
  obtain ⟨hd, rfl⟩ := hd
  exact lv_ladd C.1 C.2.1 hd (k p l e R s m args below meth c D cA ta b0 H locs lsA cells slots Fin C hP hS hl hF)
theorem r_lsub {x y : Int64} (hd : Dc mt pc .lsub 1 n) (k : Wa X mt d n ls (.long (x - y) :: st) μ Q) : Wa X mt d pc ls (.long y :: .long x :: st) μ Q := by
  intro p l e R s m args below meth c D cA ta b0 H locs lsA cells slots Fin C hP hS hl hF
  obtain ⟨hd, rfl⟩ := hd
  exact lv_lsub C.1 C.2.1 hd (k p l e R s m args below meth c D cA ta b0 H locs lsA cells slots Fin C hP hS hl hF)
theorem r_lmul {x y : Int64} (hd : Dc mt pc .lmul 1 n) (k : Wa X mt d n ls (.long (x * y) :: st) μ Q) : Wa X mt d pc ls (.long y :: .long x :: st) μ Q := by
  intro p l e R s m args below meth c D cA ta b0 H locs lsA cells slots Fin C hP hS hl hF
  obtain ⟨hd, rfl⟩ := hd
  exact lv_lmul C.1 C.2.1 hd (k p l e R s m args below meth c D cA ta b0 H locs lsA cells slots Fin C hP hS hl hF)
theorem r_land {x y : Int64} (hd : Dc mt pc .land 1 n) (k : Wa X mt d n ls (.long (x &&& y) :: st) μ Q) : Wa X mt d pc ls (.long y :: .long x :: st) μ Q := by
  intro p l e R s m args below meth c D cA ta b0 H locs lsA cells slots Fin C hP hS hl hF
  obtain ⟨hd, rfl⟩ := hd
  exact lv_land C.1 C.2.1 hd (k p l e R s m args below meth c D cA ta b0 H locs lsA cells slots Fin C hP hS hl hF)
theorem r_lor {x y : Int64} (hd : Dc mt pc .lor 1 n) (k : Wa X mt d n ls (.long (x ||| y) :: st) μ Q) : Wa X mt d pc ls (.long y :: .long x :: st) μ Q := by
  intro p l e R s m args below meth c D cA ta b0 H locs lsA cells slots Fin C hP hS hl hF
  obtain ⟨hd, rfl⟩ := hd
  exact lv_lor C.1 C.2.1 hd (k p l e R s m args below meth c D cA ta b0 H locs lsA cells slots Fin C hP hS hl hF)
theorem r_lxor {x y : Int64} (hd : Dc mt pc .lxor 1 n) (k : Wa X mt d n ls (.long (x ^^^ y) :: st) μ Q) : Wa X mt d pc ls (.long y :: .long x :: st) μ Q := by
  intro p l e R s m args below meth c D cA ta b0 H locs lsA cells slots Fin C hP hS hl hF
  obtain ⟨hd, rfl⟩ := hd
  exact lv_lxor C.1 C.2.1 hd (k p l e R s m args below meth c D cA ta b0 H locs lsA cells slots Fin C hP hS hl hF)
theorem r_lshl {x : Int64} {y : Int32} (hd : Dc mt pc .lshl 1 n) (k : Wa X mt d n ls (.long (x <<< (y.toInt64 &&& 63)) :: st) μ Q) : Wa X mt d pc ls (.int y :: .long x :: st) μ Q := by
  intro p l e R s m args below meth c D cA ta b0 H locs lsA cells slots Fin C hP hS hl hF
  obtain ⟨hd, rfl⟩ := hd
  exact lv_lshl C.1 C.2.1 hd rfl (k p l e R s m args below meth c D cA ta b0 H locs lsA cells slots Fin C hP hS hl hF)
theorem r_lshr {x : Int64} {y : Int32} (hd : Dc mt pc .lshr 1 n) (k : Wa X mt d n ls (.long (x >>> (y.toInt64 &&& 63)) :: st) μ Q) : Wa X mt d pc ls (.int y :: .long x :: st) μ Q := by
  intro p l e R s m args below meth c D cA ta b0 H locs lsA cells slots Fin C hP hS hl hF
  obtain ⟨hd, rfl⟩ := hd
  exact lv_lshr C.1 C.2.1 hd rfl (k p l e R s m args below meth c D cA ta b0 H locs lsA cells slots Fin C hP hS hl hF)
theorem r_lushr {x : Int64} {y : Int32} (hd : Dc mt pc .lushr 1 n) (k : Wa X mt d n ls (.long ((x.toUInt64 >>> (y.toInt64.toUInt64 &&& Int64.toUInt64 63)).toInt64) :: st) μ Q) : Wa X mt d pc ls (.int y :: .long x :: st) μ Q := by
  intro p l e R s m args below meth c D cA ta b0 H locs lsA cells slots Fin C hP hS hl hF
  obtain ⟨hd, rfl⟩ := hd
  exact lv_lushr C.1 C.2.1 hd rfl (k p l e R s m args below meth c D cA ta b0 H locs lsA cells slots Fin C hP hS hl hF)
theorem r_lcmp {x y : Int64} (hd : Dc mt pc .lcmp 1 n) (k : Wa X mt d n ls (.int (lg_cmp x y) :: st) μ Q) : Wa X mt d pc ls (.long y :: .long x :: st) μ Q := by
  intro p l e R s m args below meth c D cA ta b0 H locs lsA cells slots Fin C hP hS hl hF
  obtain ⟨hd, rfl⟩ := hd
  exact W.lcmp C.1 C.2.1 hd (k p l e R s m args below meth c D cA ta b0 H locs lsA cells slots Fin C hP hS hl hF)
theorem r_i2l {x : Int32} (hd : Dc mt pc .i2l 1 n) (k : Wa X mt d n ls (.long x.toInt64 :: st) μ Q) : Wa X mt d pc ls (.int x :: st) μ Q := by
  intro p l e R s m args below meth c D cA ta b0 H locs lsA cells slots Fin C hP hS hl hF
  obtain ⟨hd, rfl⟩ := hd
  exact lv_i2l C.1 C.2.1 hd rfl (k p l e R s m args below meth c D cA ta b0 H locs lsA cells slots Fin C hP hS hl hF)
theorem r_l2i {x : Int64} (hd : Dc mt pc .l2i 1 n) (k : Wa X mt d n ls (.int x.toInt32 :: st) μ Q) : Wa X mt d pc ls (.long x :: st) μ Q := by
  intro p l e R s m args below meth c D cA ta b0 H locs lsA cells slots Fin C hP hS hl hF
  obtain ⟨hd, rfl⟩ := hd
  exact lv_l2i C.1 C.2.1 hd rfl (k p l e R s m args below meth c D cA ta b0 H locs lsA cells slots Fin C hP hS hl hF)
theorem r_i2b {x : Int32} (hd : Dc mt pc .i2b 1 n) (k : Wa X mt d n ls (.int x.toInt8.toInt32 :: st) μ Q) : Wa X mt d pc ls (.int x :: st) μ Q := by
  intro p l e R s m args below meth c D cA ta b0 H locs lsA cells slots Fin C hP hS hl hF
  obtain ⟨hd, rfl⟩ := hd
  exact lv_i2b C.1 C.2.1 hd rfl (k p l e R s m args below meth c D cA ta b0 H locs lsA cells slots Fin C hP hS hl hF)
theorem r_i2s {x : Int32} (hd : Dc mt pc .i2s 1 n) (k : Wa X mt d n ls (.int x.toInt16.toInt32 :: st) μ Q) : Wa X mt d pc ls (.int x :: st) μ Q := by
  intro p l e R s m args below meth c D cA ta b0 H locs lsA cells slots Fin C hP hS hl hF
  obtain ⟨hd, rfl⟩ := hd
  exact lv_i2s C.1 C.2.1 hd rfl (k p l e R s m args below meth c D cA ta b0 H locs lsA cells slots Fin C hP hS hl hF)
theorem r_iconst {z : Int} (v : Int32) (hd : Dc mt pc (.iconst z) 1 n) (hv : Int32.ofInt z = v) (k : Wa X mt d n ls (.int v :: st) μ Q) : Wa X mt d pc ls (st) μ Q := by
  intro p l e R s m args below meth c D cA ta b0 H locs lsA cells slots Fin C hP hS hl hF
  obtain ⟨hd, rfl⟩ := hd
  exact lv_iconst C.1 C.2.1 hd hv (k p l e R s m args below meth c D cA ta b0 H locs lsA cells slots Fin C hP hS hl hF)
theorem r_bipush {z : Int} (v : Int32) (hd : Dc mt pc (.bipush z) 2 n) (hv : (Int8.ofInt z).toInt32 = v) (k : Wa X mt d n ls (.int v :: st) μ Q) : Wa X mt d pc ls (st) μ Q := by
  intro p l e R s m args below meth c D cA ta b0 H locs lsA cells slots Fin C hP hS hl hF
  obtain ⟨hd, rfl⟩ := hd
  exact lv_bipush C.1 C.2.1 hd hv (k p l e R s m args below meth c D cA ta b0 H locs lsA cells slots Fin C hP hS hl hF)
theorem r_sipush {z : Int} (v : Int32) (hd : Dc mt pc (.sipush z) 3 n) (hv : (Int16.ofInt z).toInt32 = v) (k : Wa X mt d n ls (.int v :: st) μ Q) : Wa X mt d pc ls (st) μ Q := by
  intro p l e R s m args below meth c D cA ta b0 H locs lsA cells slots Fin C hP hS hl hF
  obtain ⟨hd, rfl⟩ := hd
  exact lv_sipush C.1 C.2.1 hd hv (k p l e R s m args below meth c D cA ta b0 H locs lsA cells slots Fin C hP hS hl hF)
theorem r_lconst {z : Fin 2} (v : Int64) (hd : Dc mt pc (.lconst z) 1 n) (hv : Int64.ofInt z.val = v) (k : Wa X mt d n ls (.long v :: st) μ Q) : Wa X mt d pc ls (st) μ Q := by
  intro p l e R s m args below meth c D cA ta b0 H locs lsA cells slots Fin C hP hS hl hF
  obtain ⟨hd, rfl⟩ := hd
  exact lv_lconst C.1 C.2.1 hd hv (k p l e R s m args below meth c D cA ta b0 H locs lsA cells slots Fin C hP hS hl hF)
theorem r_null  (hd : Dc mt pc .aconst_null 1 n) (k : Wa X mt d n ls (.null :: st) μ Q) : Wa X mt d pc ls (st) μ Q := by
  intro p l e R s m args below meth c D cA ta b0 H locs lsA cells slots Fin C hP hS hl hF
  obtain ⟨hd, rfl⟩ := hd
  exact lv_null C.1 C.2.1 hd (k p l e R s m args below meth c D cA ta b0 H locs lsA cells slots Fin C hP hS hl hF)
theorem r_dup {v : Value} (hd : Dc mt pc .dup 1 n) (hv : v.category = 1) (k : Wa X mt d n ls (v :: v :: st) μ Q) : Wa X mt d pc ls (v :: st) μ Q := by
  intro p l e R s m args below meth c D cA ta b0 H locs lsA cells slots Fin C hP hS hl hF
  obtain ⟨hd, rfl⟩ := hd
  exact lv_dup C.1 C.2.1 hd ((cv_cat b0 ta v).trans hv) (k p l e R s m args below meth c D cA ta b0 H locs lsA cells slots Fin C hP hS hl hF)
theorem r_pop {v : Value} (hd : Dc mt pc .pop 1 n) (hv : v.category = 1) (k : Wa X mt d n ls st μ Q) : Wa X mt d pc ls (v :: st) μ Q := by
  intro p l e R s m args below meth c D cA ta b0 H locs lsA cells slots Fin C hP hS hl hF
  obtain ⟨hd, rfl⟩ := hd
  exact lv_pop C.1 C.2.1 hd ((cv_cat b0 ta v).trans hv) (k p l e R s m args below meth c D cA ta b0 H locs lsA cells slots Fin C hP hS hl hF)
theorem r_dup_x1 {v w : Value} (hd : Dc mt pc .dup_x1 1 n) (hv : v.category = 1) (hw : w.category = 1) (k : Wa X mt d n ls (v :: w :: v :: st) μ Q) : Wa X mt d pc ls (v :: w :: st) μ Q := by
  intro p l e R s m args below meth c D cA ta b0 H locs lsA cells slots Fin C hP hS hl hF
  obtain ⟨hd, rfl⟩ := hd
  exact lv_dup_x1 C.1 C.2.1 hd ((cv_cat b0 ta v).trans hv) ((cv_cat b0 ta w).trans hw) (k p l e R s m args below meth c D cA ta b0 H locs lsA cells slots Fin C hP hS hl hF)
theorem r_dup2 {v w : Value} (hd : Dc mt pc .dup2 1 n) (hv : v.category = 1) (hw : w.category = 1) (k : Wa X mt d n ls (v :: w :: v :: w :: st) μ Q) : Wa X mt d pc ls (v :: w :: st) μ Q := by
  intro p l e R s m args below meth c D cA ta b0 H locs lsA cells slots Fin C hP hS hl hF
  obtain ⟨hd, rfl⟩ := hd
  exact lv_dup2_11 C.1 C.2.1 hd ((cv_cat b0 ta v).trans hv) ((cv_cat b0 ta w).trans hw) (k p l e R s m args below meth c D cA ta b0 H locs lsA cells slots Fin C hP hS hl hF)
theorem r_iload_n (i : Nat) {j : Fin 4} {x : Int32} (hd : Dc mt pc (.iload_n j) 1 n) (hj : (j : Nat) = i) (hi : ls[i]? = some (.int x)) (k : Wa X mt d n ls (.int x :: st) μ Q) : Wa X mt d pc ls st μ Q := by
  intro p l e R s m args below meth c D cA ta b0 H locs lsA cells slots Fin C hP hS hl hF
  obtain ⟨hd, rfl⟩ := hd
  exact lv_iload_n C.1 C.2.1 hd hj (hl.2.2 _ _ hi (by simp)) (k p l e R s m args below meth c D cA ta b0 H locs lsA cells slots Fin C hP hS hl hF)
theorem r_iload (i : Nat) {x : Int32} (hd : Dc mt pc (.iload i) 2 n) (hi : ls[i]? = some (.int x)) (k : Wa X mt d n ls (.int x :: st) μ Q) : Wa X mt d pc ls st μ Q := by
  intro p l e R s m args below meth c D cA ta b0 H locs lsA cells slots Fin C hP hS hl hF
  obtain ⟨hd, rfl⟩ := hd
  exact lv_iload C.1 C.2.1 hd (hl.2.2 _ _ hi (by simp)) (k p l e R s m args below meth c D cA ta b0 H locs lsA cells slots Fin C hP hS hl hF)
theorem r_istore_n (i : Nat) (ls1 : List Value) {j : Fin 4} {x : Int32} (hd : Dc mt pc (.istore_n j) 1 n) (hj : (j : Nat) = i) (hb : i < mt.2.2.1) (hs : st1 ls i (.int x) = ls1) (k : Wa X mt d n ls1 st μ Q) : Wa X mt d pc ls (.int x :: st) μ Q := by
  intro p l e R s m args below meth c D cA ta b0 H locs lsA cells slots Fin C hP hS hl hF
  obtain ⟨hd, rfl⟩ := hd
  subst hs
  exact lv_istore_n C.1 C.2.1 hd hj hl.has hb rfl (fun lsA1 hl1 => k p l e R s m args below meth c D cA ta b0 H locs lsA1 cells slots Fin C hP hS (Lh.st1 (v := .int x) hl1) hF)
theorem r_istore (i : Nat) (ls1 : List Value) {x : Int32} (hd : Dc mt pc (.istore i) 2 n) (hb : i < mt.2.2.1) (hs : st1 ls i (.int x) = ls1) (k : Wa X mt d n ls1 st μ Q) : Wa X mt d pc ls (.int x :: st) μ Q := by
  intro p l e R s m args below meth c D cA ta b0 H locs lsA cells slots Fin C hP hS hl hF
  obtain ⟨hd, rfl⟩ := hd
  subst hs
  exact lv_istore C.1 C.2.1 hd hl.has hb rfl (fun lsA1 hl1 => k p l e R s m args below meth c D cA ta b0 H locs lsA1 cells slots Fin C hP hS (Lh.st1 (v := .int x) hl1) hF)
theorem r_lload_n (i : Nat) {j : Fin 4} {x : Int64} (hd : Dc mt pc (.lload_n j) 1 n) (hj : (j : Nat) = i) (hi : ls[i]? = some (.long x)) (k : Wa X mt d n ls (.long x :: st) μ Q) : Wa X mt d pc ls st μ Q := by
  intro p l e R s m args below meth c D cA ta b0 H locs lsA cells slots Fin C hP hS hl hF
  obtain ⟨hd, rfl⟩ := hd
  exact lv_lload_n C.1 C.2.1 hd hj (hl.2.2 _ _ hi (by simp)) (k p l e R s m args below meth c D cA ta b0 H locs lsA cells slots Fin C hP hS hl hF)
theorem r_lload (i : Nat) {x : Int64} (hd : Dc mt pc (.lload i) 2 n) (hi : ls[i]? = some (.long x)) (k : Wa X mt d n ls (.long x :: st) μ Q) : Wa X mt d pc ls st μ Q := by
  intro p l e R s m args below meth c D cA ta b0 H locs lsA cells slots Fin C hP hS hl hF
  obtain ⟨hd, rfl⟩ := hd
  exact lv_lload C.1 C.2.1 hd (hl.2.2 _ _ hi (by simp)) (k p l e R s m args below meth c D cA ta b0 H locs lsA cells slots Fin C hP hS hl hF)
theorem r_lstore_n (i : Nat) (ls1 : List Value) {j : Fin 4} {x : Int64} (hd : Dc mt pc (.lstore_n j) 1 n) (hj : (j : Nat) = i) (hb : i + 1 < mt.2.2.1) (hs : st2 ls i (.long x) = ls1) (k : Wa X mt d n ls1 st μ Q) : Wa X mt d pc ls (.long x :: st) μ Q := by
  intro p l e R s m args below meth c D cA ta b0 H locs lsA cells slots Fin C hP hS hl hF
  obtain ⟨hd, rfl⟩ := hd
  subst hs
  exact lv_lstore_n C.1 C.2.1 hd hj hl.has hb rfl (fun lsA1 hl1 => k p l e R s m args below meth c D cA ta b0 H locs lsA1 cells slots Fin C hP hS (Lh.st2 (v := .long x) hl1) hF)
theorem r_lstore (i : Nat) (ls1 : List Value) {x : Int64} (hd : Dc mt pc (.lstore i) 2 n) (hb : i + 1 < mt.2.2.1) (hs : st2 ls i (.long x) = ls1) (k : Wa X mt d n ls1 st μ Q) : Wa X mt d pc ls (.long x :: st) μ Q := by
  intro p l e R s m args below meth c D cA ta b0 H locs lsA cells slots Fin C hP hS hl hF
  obtain ⟨hd, rfl⟩ := hd
  subst hs
  exact lv_lstore C.1 C.2.1 hd hl.has hb rfl (fun lsA1 hl1 => k p l e R s m args below meth c D cA ta b0 H locs lsA1 cells slots Fin C hP hS (Lh.st2 (v := .long x) hl1) hF)
theorem r_aload_n (i : Nat) {j : Fin 4} {x : Nat} (hd : Dc mt pc (.aload_n j) 1 n) (hj : (j : Nat) = i) (hi : ls[i]? = some (.ref x)) (k : Wa X mt d n ls (.ref x :: st) μ Q) : Wa X mt d pc ls st μ Q := by
  intro p l e R s m args below meth c D cA ta b0 H locs lsA cells slots Fin C hP hS hl hF
  obtain ⟨hd, rfl⟩ := hd
  exact lv_aload_n C.1 C.2.1 hd hj (hl.2.2 _ _ hi (by simp)) (k p l e R s m args below meth c D cA ta b0 H locs lsA cells slots Fin C hP hS hl hF)
theorem r_aload (i : Nat) {x : Nat} (hd : Dc mt pc (.aload i) 2 n) (hi : ls[i]? = some (.ref x)) (k : Wa X mt d n ls (.ref x :: st) μ Q) : Wa X mt d pc ls st μ Q := by
  intro p l e R s m args below meth c D cA ta b0 H locs lsA cells slots Fin C hP hS hl hF
  obtain ⟨hd, rfl⟩ := hd
  exact lv_aload C.1 C.2.1 hd (hl.2.2 _ _ hi (by simp)) (k p l e R s m args below meth c D cA ta b0 H locs lsA cells slots Fin C hP hS hl hF)
theorem r_astore_n (i : Nat) (ls1 : List Value) {j : Fin 4} {x : Nat} (hd : Dc mt pc (.astore_n j) 1 n) (hj : (j : Nat) = i) (hb : i < mt.2.2.1) (hs : st1 ls i (.ref x) = ls1) (k : Wa X mt d n ls1 st μ Q) : Wa X mt d pc ls (.ref x :: st) μ Q := by
  intro p l e R s m args below meth c D cA ta b0 H locs lsA cells slots Fin C hP hS hl hF
  obtain ⟨hd, rfl⟩ := hd
  subst hs
  exact lv_astore_n C.1 C.2.1 hd hj hl.has hb rfl (fun lsA1 hl1 => k p l e R s m args below meth c D cA ta b0 H locs lsA1 cells slots Fin C hP hS (Lh.st1 (v := .ref x) hl1) hF)
theorem r_astore (i : Nat) (ls1 : List Value) {x : Nat} (hd : Dc mt pc (.astore i) 2 n) (hb : i < mt.2.2.1) (hs : st1 ls i (.ref x) = ls1) (k : Wa X mt d n ls1 st μ Q) : Wa X mt d pc ls (.ref x :: st) μ Q := by
  intro p l e R s m args below meth c D cA ta b0 H locs lsA cells slots Fin C hP hS hl hF
  obtain ⟨hd, rfl⟩ := hd
  subst hs
  exact lv_astore C.1 C.2.1 hd hl.has hb rfl (fun lsA1 hl1 => k p l e R s m args below meth c D cA ta b0 H locs lsA1 cells slots Fin C hP hS (Lh.st1 (v := .ref x) hl1) hF)
theorem r_aload_nN (i : Nat) {j : Fin 4} (hd : Dc mt pc (.aload_n j) 1 n) (hj : (j : Nat) = i) (hi : ls[i]? = some .null) (k : Wa X mt d n ls (.null :: st) μ Q) : Wa X mt d pc ls st μ Q := by
  intro p l e R s m args below meth c D cA ta b0 H locs lsA cells slots Fin C hP hS hl hF
  obtain ⟨hd, rfl⟩ := hd
  exact lv_aload_nN C.1 C.2.1 hd hj (hl.2.2 _ _ hi (by simp)) (k p l e R s m args below meth c D cA ta b0 H locs lsA cells slots Fin C hP hS hl hF)
theorem r_aloadN (i : Nat) (hd : Dc mt pc (.aload i) 2 n) (hi : ls[i]? = some .null) (k : Wa X mt d n ls (.null :: st) μ Q) : Wa X mt d pc ls st μ Q := by
  intro p l e R s m args below meth c D cA ta b0 H locs lsA cells slots Fin C hP hS hl hF
  obtain ⟨hd, rfl⟩ := hd
  exact lv_aloadN C.1 C.2.1 hd (hl.2.2 _ _ hi (by simp)) (k p l e R s m args below meth c D cA ta b0 H locs lsA cells slots Fin C hP hS hl hF)
theorem r_astore_nN (i : Nat) (ls1 : List Value) {j : Fin 4} (hd : Dc mt pc (.astore_n j) 1 n) (hj : (j : Nat) = i) (hb : i < mt.2.2.1) (hs : st1 ls i .null = ls1) (k : Wa X mt d n ls1 st μ Q) : Wa X mt d pc ls (.null :: st) μ Q := by
  intro p l e R s m args below meth c D cA ta b0 H locs lsA cells slots Fin C hP hS hl hF
  obtain ⟨hd, rfl⟩ := hd
  subst hs
  exact lv_astore_nN C.1 C.2.1 hd hj hl.has hb rfl (fun lsA1 hl1 => k p l e R s m args below meth c D cA ta b0 H locs lsA1 cells slots Fin C hP hS (Lh.st1 (v := .null) hl1) hF)
theorem r_astoreN (i : Nat) (ls1 : List Value) (hd : Dc mt pc (.astore i) 2 n) (hb : i < mt.2.2.1) (hs : st1 ls i .null = ls1) (k : Wa X mt d n ls1 st μ Q) : Wa X mt d pc ls (.null :: st) μ Q := by
  intro p l e R s m args below meth c D cA ta b0 H locs lsA cells slots Fin C hP hS hl hF
  obtain ⟨hd, rfl⟩ := hd
  subst hs
  exact lv_astoreN C.1 C.2.1 hd hl.has hb rfl (fun lsA1 hl1 => k p l e R s m args below meth c D cA ta b0 H locs lsA1 cells slots Fin C hP hS (Lh.st1 (v := .null) hl1) hF)
theorem r_iinc (i : Nat) (ls1 : List Value) (w : Int32) {z : Int} {x : Int32} (hd : Dc mt pc (.iinc i z) 3 n) (hw : Int32.ofInt z = w) (hb : i < mt.2.2.1) (hi : ls[i]? = some (.int x)) (hs : st1 ls i (.int (x + w)) = ls1) (k : Wa X mt d n ls1 st μ Q) : Wa X mt d pc ls st μ Q := by
  intro p l e R s m args below meth c D cA ta b0 H locs lsA cells slots Fin C hP hS hl hF
  obtain ⟨hd, rfl⟩ := hd
  subst hs
  obtain ⟨j, hj⟩ := List.getElem?_of_mem (lvl_mem (b0 := b0) (ta := ta) hi (by simp))
  exact lv_iinc C.1 C.2.1 hd hl.has (k := j) hj (by rw [hw]) hb rfl (fun lsA1 hl1 => k p l e R s m args below meth c D cA ta b0 H locs lsA1 cells slots Fin C hP hS (Lh.st1 (v := .int (x + w)) hl1) hF)
theorem r_if_eq {x : Int32} {tgt : Nat} (hd : Dj mt pc (.ifCond .eq) n tgt) (kt : x = 0 → Wa X mt d tgt ls st μ Q) (kf : ¬ x = 0 → Wa X mt d n ls st μ Q) : Wa X mt d pc ls (.int x :: st) μ Q := by
  intro p l e R s m args below meth c D cA ta b0 H locs lsA cells slots Fin C hP hS hl hF
  obtain ⟨off, hd, rfl, ht⟩ := hd
  exact lv_if_eq C.1 C.2.1 hd ht (fun h => kt h p l e R s m args below meth c D cA ta b0 H locs lsA cells slots Fin C hP hS hl hF) (fun h => kf h p l e R s m args below meth c D cA ta b0 H locs lsA cells slots Fin C hP hS hl hF)
theorem r_icmp_eq {x y : Int32} {tgt : Nat} (hd : Dj mt pc (.if_icmp .eq) n tgt) (kt : x = y → Wa X mt d tgt ls st μ Q) (kf : ¬ x = y → Wa X mt d n ls st μ Q) : Wa X mt d pc ls (.int y :: .int x :: st) μ Q := by
  intro p l e R s m args below meth c D cA ta b0 H locs lsA cells slots Fin C hP hS hl hF
  obtain ⟨off, hd, rfl, ht⟩ := hd
  exact lv_icmp_eq C.1 C.2.1 hd ht (fun h => kt h p l e R s m args below meth c D cA ta b0 H locs lsA cells slots Fin C hP hS hl hF) (fun h => kf h p l e R s m args below meth c D cA ta b0 H locs lsA cells slots Fin C hP hS hl hF)
theorem r_if_ne {x : Int32} {tgt : Nat} (hd : Dj mt pc (.ifCond .ne) n tgt) (kt : ¬ x = 0 → Wa X mt d tgt ls st μ Q) (kf : x = 0 → Wa X mt d n ls st μ Q) : Wa X mt d pc ls (.int x :: st) μ Q := by
  intro p l e R s m args below meth c D cA ta b0 H locs lsA cells slots Fin C hP hS hl hF
  obtain ⟨off, hd, rfl, ht⟩ := hd
  exact lv_if_ne C.1 C.2.1 hd ht (fun h => kt h p l e R s m args below meth c D cA ta b0 H locs lsA cells slots Fin C hP hS hl hF) (fun h => kf h p l e R s m args below meth c D cA ta b0 H locs lsA cells slots Fin C hP hS hl hF)
theorem r_icmp_ne {x y : Int32} {tgt : Nat} (hd : Dj mt pc (.if_icmp .ne) n tgt) (kt : ¬ x = y → Wa X mt d tgt ls st μ Q) (kf : x = y → Wa X mt d n ls st μ Q) : Wa X mt d pc ls (.int y :: .int x :: st) μ Q := by
  intro p l e R s m args below meth c D cA ta b0 H locs lsA cells slots Fin C hP hS hl hF
  obtain ⟨off, hd, rfl, ht⟩ := hd
  exact lv_icmp_ne C.1 C.2.1 hd ht (fun h => kt h p l e R s m args below meth c D cA ta b0 H locs lsA cells slots Fin C hP hS hl hF) (fun h => kf h p l e R s m args below meth c D cA ta b0 H locs lsA cells slots Fin C hP hS hl hF)
theorem r_if_lt {x : Int32} {tgt : Nat} (hd : Dj mt pc (.ifCond .lt) n tgt) (kt : x < 0 → Wa X mt d tgt ls st μ Q) (kf : ¬ x < 0 → Wa X mt d n ls st μ Q) : Wa X mt d pc ls (.int x :: st) μ Q := by
  intro p l e R s m args below meth c D cA ta b0 H locs lsA cells slots Fin C hP hS hl hF
  obtain ⟨off, hd, rfl, ht⟩ := hd
  exact lv_if_lt C.1 C.2.1 hd ht (fun h => kt h p l e R s m args below meth c D cA ta b0 H locs lsA cells slots Fin C hP hS hl hF) (fun h => kf h p l e R s m args below meth c D cA ta b0 H locs lsA cells slots Fin C hP hS hl hF)
theorem r_icmp_lt {x y : Int32} {tgt : Nat} (hd : Dj mt pc (.if_icmp .lt) n tgt) (kt : x < y → Wa X mt d tgt ls st μ Q) (kf : ¬ x < y → Wa X mt d n ls st μ Q) : Wa X mt d pc ls (.int y :: .int x :: st) μ Q := by
  intro p l e R s m args below meth c D cA ta b0 H locs lsA cells slots Fin C hP hS hl hF
  obtain ⟨off, hd, rfl, ht⟩ := hd
  exact lv_icmp_lt C.1 C.2.1 hd ht (fun h => kt h p l e R s m args below meth c D cA ta b0 H locs lsA cells slots Fin C hP hS hl hF) (fun h => kf h p l e R s m args below meth c D cA ta b0 H locs lsA cells slots Fin C hP hS hl hF)
theorem r_if_ge {x : Int32} {tgt : Nat} (hd : Dj mt pc (.ifCond .ge) n tgt) (kt : 0 ≤ x → Wa X mt d tgt ls st μ Q) (kf : ¬ 0 ≤ x → Wa X mt d n ls st μ Q) : Wa X mt d pc ls (.int x :: st) μ Q := by
  intro p l e R s m args below meth c D cA ta b0 H locs lsA cells slots Fin C hP hS hl hF
  obtain ⟨off, hd, rfl, ht⟩ := hd
  exact lv_if_ge C.1 C.2.1 hd ht (fun h => kt h p l e R s m args below meth c D cA ta b0 H locs lsA cells slots Fin C hP hS hl hF) (fun h => kf h p l e R s m args below meth c D cA ta b0 H locs lsA cells slots Fin C hP hS hl hF)
theorem r_icmp_ge {x y : Int32} {tgt : Nat} (hd : Dj mt pc (.if_icmp .ge) n tgt) (kt : y ≤ x → Wa X mt d tgt ls st μ Q) (kf : ¬ y ≤ x → Wa X mt d n ls st μ Q) : Wa X mt d pc ls (.int y :: .int x :: st) μ Q := by
  intro p l e R s m args below meth c D cA ta b0 H locs lsA cells slots Fin C hP hS hl hF
  obtain ⟨off, hd, rfl, ht⟩ := hd
  exact lv_icmp_ge C.1 C.2.1 hd ht (fun h => kt h p l e R s m args below meth c D cA ta b0 H locs lsA cells slots Fin C hP hS hl hF) (fun h => kf h p l e R s m args below meth c D cA ta b0 H locs lsA cells slots Fin C hP hS hl hF)
theorem r_if_gt {x : Int32} {tgt : Nat} (hd : Dj mt pc (.ifCond .gt) n tgt) (kt : 0 < x → Wa X mt d tgt ls st μ Q) (kf : ¬ 0 < x → Wa X mt d n ls st μ Q) : Wa X mt d pc ls (.int x :: st) μ Q := by
  intro p l e R s m args below meth c D cA ta b0 H locs lsA cells slots Fin C hP hS hl hF
  obtain ⟨off, hd, rfl, ht⟩ := hd
  exact lv_if_gt C.1 C.2.1 hd ht (fun h => kt h p l e R s m args below meth c D cA ta b0 H locs lsA cells slots Fin C hP hS hl hF) (fun h => kf h p l e R s m args below meth c D cA ta b0 H locs lsA cells slots Fin C hP hS hl hF)
theorem r_icmp_gt {x y : Int32} {tgt : Nat} (hd : Dj mt pc (.if_icmp .gt) n tgt) (kt : y < x → Wa X mt d tgt ls st μ Q) (kf : ¬ y < x → Wa X mt d n ls st μ Q) : Wa X mt d pc ls (.int y :: .int x :: st) μ Q := by
  intro p l e R s m args below meth c D cA ta b0 H locs lsA cells slots Fin C hP hS hl hF
  obtain ⟨off, hd, rfl, ht⟩ := hd
  exact lv_icmp_gt C.1 C.2.1 hd ht (fun h => kt h p l e R s m args below meth c D cA ta b0 H locs lsA cells slots Fin C hP hS hl hF) (fun h => kf h p l e R s m args below meth c D cA ta b0 H locs lsA cells slots Fin C hP hS hl hF)
theorem r_if_le {x : Int32} {tgt : Nat} (hd : Dj mt pc (.ifCond .le) n tgt) (kt : x ≤ 0 → Wa X mt d tgt ls st μ Q) (kf : ¬ x ≤ 0 → Wa X mt d n ls st μ Q) : Wa X mt d pc ls (.int x :: st) μ Q := by
  intro p l e R s m args below meth c D cA ta b0 H locs lsA cells slots Fin C hP hS hl hF
  obtain ⟨off, hd, rfl, ht⟩ := hd
  exact lv_if_le C.1 C.2.1 hd ht (fun h => kt h p l e R s m args below meth c D cA ta b0 H locs lsA cells slots Fin C hP hS hl hF) (fun h => kf h p l e R s m args below meth c D cA ta b0 H locs lsA cells slots Fin C hP hS hl hF)
theorem r_icmp_le {x y : Int32} {tgt : Nat} (hd : Dj mt pc (.if_icmp .le) n tgt) (kt : x ≤ y → Wa X mt d tgt ls st μ Q) (kf : ¬ x ≤ y → Wa X mt d n ls st μ Q) : Wa X mt d pc ls (.int y :: .int x :: st) μ Q := by
  intro p l e R s m args below meth c D cA ta b0 H locs lsA cells slots Fin C hP hS hl hF
  obtain ⟨off, hd, rfl, ht⟩ := hd
  exact lv_icmp_le C.1 C.2.1 hd ht (fun h => kt h p l e R s m args below meth c D cA ta b0 H locs lsA cells slots Fin C hP hS hl hF) (fun h => kf h p l e R s m args below meth c D cA ta b0 H locs lsA cells slots Fin C hP hS hl hF)
theorem r_goto {tgt : Nat} (hd : Dj mt pc .goto n tgt) (k : Wa X mt d tgt ls st μ Q) : Wa X mt d pc ls st μ Q := by
  intro p l e R s m args below meth c D cA ta b0 H locs lsA cells slots Fin C hP hS hl hF
  obtain ⟨off, hd, rfl, ht⟩ := hd
  exact lv_goto C.1 C.2.1 hd ht (k p l e R s m args below meth c D cA ta b0 H locs lsA cells slots Fin C hP hS hl hF)
theorem r_ifnull {x tgt : Nat} (hd : Dj mt pc .ifnull n tgt) (k : Wa X mt d n ls st μ Q) : Wa X mt d pc ls (.ref x :: st) μ Q := by
  intro p l e R s m args below meth c D cA ta b0 H locs lsA cells slots Fin C hP hS hl hF
  obtain ⟨off, hd, rfl, ht⟩ := hd
  exact lv_ifnull C.1 C.2.1 hd (k p l e R s m args below meth c D cA ta b0 H locs lsA cells slots Fin C hP hS hl hF)
theorem r_ifnullN {tgt : Nat} (hd : Dj mt pc .ifnull n tgt) (k : Wa X mt d tgt ls st μ Q) : Wa X mt d pc ls (.null :: st) μ Q := by
  intro p l e R s m args below meth c D cA ta b0 H locs lsA cells slots Fin C hP hS hl hF
  obtain ⟨off, hd, rfl, ht⟩ := hd
  exact lv_ifnullN C.1 C.2.1 hd ht (k p l e R s m args below meth c D cA ta b0 H locs lsA cells slots Fin C hP hS hl hF)
theorem r_ifnonnull {x tgt : Nat} (hd : Dj mt pc .ifnonnull n tgt) (k : Wa X mt d tgt ls st μ Q) : Wa X mt d pc ls (.ref x :: st) μ Q := by
  intro p l e R s m args below meth c D cA ta b0 H locs lsA cells slots Fin C hP hS hl hF
  obtain ⟨off, hd, rfl, ht⟩ := hd
  exact lv_ifnonnull C.1 C.2.1 hd ht (k p l e R s m args below meth c D cA ta b0 H locs lsA cells slots Fin C hP hS hl hF)
theorem r_ifnonnullN {tgt : Nat} (hd : Dj mt pc .ifnonnull n tgt) (k : Wa X mt d n ls st μ Q) : Wa X mt d pc ls (.null :: st) μ Q := by
  intro p l e R s m args below meth c D cA ta b0 H locs lsA cells slots Fin C hP hS hl hF
  obtain ⟨off, hd, rfl, ht⟩ := hd
  exact lv_ifnonnullN C.1 C.2.1 hd (k p l e R s m args below meth c D cA ta b0 H locs lsA cells slots Fin C hP hS hl hF)
-- returns
theorem r_ret (hd : Dc mt pc .return_ 1 n) (hr : mt.2.2.2 = none) (k : Q none μ) : Wa X mt d pc ls [] μ Q := by
  intro p l e R s m args below meth c D cA ta b0 H locs lsA cells slots Fin C hP hS hl hF
  exact hF none μ H locs pc lsA k hP hS (Or.inl ⟨rfl, hr, hd.1⟩)
theorem r_iret {v : Int32} (ty : FieldType) (hd : Dc mt pc .ireturn 1 n) (hr : mt.2.2.2 = some ty) (hn : narrow ty (.int v) = .int v) (k : Q (some (.int v)) μ) : Wa X mt d pc ls [.int v] μ Q := by
  intro p l e R s m args below meth c D cA ta b0 H locs lsA cells slots Fin C hP hS hl hF
  exact hF (some (.int v)) μ H locs pc lsA k hP hS (Or.inr (Or.inl ⟨v, ty, rfl, hr, hn, hd.1⟩))
theorem r_lret {v : Int64} (hd : Dc mt pc .lreturn 1 n) (hr : mt.2.2.2 = some .long) (k : Q (some (.long v)) μ) : Wa X mt d pc ls [.long v] μ Q := by
  intro p l e R s m args below meth c D cA ta b0 H locs lsA cells slots Fin C hP hS hl hF
  exact hF (some (.long v)) μ H locs pc lsA k hP hS (Or.inr (Or.inr (Or.inl ⟨v, rfl, hr, hd.1⟩)))
theorem r_aret {v : Nat} (nm : String) (hd : Dc mt pc .areturn 1 n) (hr : mt.2.2.2 = some (.object nm)) (k : Q (some (.ref v)) μ) : Wa X mt d pc ls [.ref v] μ Q := by
  intro p l e R s m args below meth c D cA ta b0 H locs lsA cells slots Fin C hP hS hl hF
  exact hF (some (.ref v)) μ H locs pc lsA k hP hS (Or.inr (Or.inr (Or.inr ⟨Or.inr ⟨v, rfl⟩, ⟨nm, hr⟩, hd.1⟩)))
theorem r_aretN (nm : String) (hd : Dc mt pc .areturn 1 n) (hr : mt.2.2.2 = some (.object nm)) (k : Q (some .null) μ) : Wa X mt d pc ls [.null] μ Q := by
  intro p l e R s m args below meth c D cA ta b0 H locs lsA cells slots Fin C hP hS hl hF
  exact hF (some .null) μ H locs pc lsA k hP hS (Or.inr (Or.inr (Or.inr ⟨Or.inl rfl, ⟨nm, hr⟩, hd.1⟩)))
-- fields
def FL (own : String) (idx ci j : Nat) : Prop := ∃ (C : String) (T : u_T) (N : Nat), kl[ci]? = some (C, T, N) ∧ j < N ∧ Cond.fieldLink own idx (T j).1 (T j).2.1 (T j).2.2.1 ∈ gtb ∧ ∀ w ∈ u_ws C T N, w ∈ gtb
def FP (own : String) (idx ci j : Nat) (ty : FieldType) : Prop := ∃ (C : String) (T : u_T) (N : Nat) (t0 : Nat → FieldType), kl[ci]? = some (C, T, N) ∧ j < N ∧ Cond.fieldLink own idx (T j).1 (T j).2.1 (T j).2.2.1 ∈ gtb ∧ (∀ w ∈ u_ws C T N, w ∈ gtb) ∧ (∀ k, k < N → parseFieldDescriptor (T k).2.2.1 = some (t0 k)) ∧ (∀ a, a < N → ∀ b, b < N → a ≠ b → (T a).2.1 ≠ (T b).2.1) ∧ (T j).2.2.2 = false ∧ parseFieldDescriptor (T j).2.2.1 = some ty
theorem cv_ref {b0 : Nat} {ta : Nat → Nat} {r : Nat} (h : r < 1000) : cv b0 ta (.ref r) = .ref (b0 + r) := by simp [cv, h]
theorem cv_hi {b0 : Nat} {ta : Nat → Nat} {r : Nat} (h : 1000 ≤ r) : cv b0 ta (.ref r) = .ref (ta r) := by simp [cv, Nat.not_lt.mpr h]
theorem r_getI {idx ci j c : Nat} {fks : List Nat} (hf : FL mt.1.cls idx ci j) (hs : shp[c]? = some (.inl (ci, fks))) (hk : fks[j]? = some 0) (hd : Dc mt pc (.getfield idx) 3 n) (k : Wa X mt d n ls (.int (μ.1 c j) :: st) μ Q) : Wa X mt d pc ls (.ref c :: st) μ Q := by
  intro p l e R s m args below meth c1 D cA ta b0 H locs lsA cells slots Fin C hP hS hl hF
  obtain ⟨hd, rfl⟩ := hd
  obtain ⟨C9, T, N, h1, h2, h3, h4⟩ := hf
  have hc := shp_lt hs
  rw [List.map_cons, cv_ref (by omega)]
  exact va_get C.1 C.2.1 C.2.2.2.2.1 h4 C.2.2.2.1 C.2.2.2.2.2.1.1 hP c (wl_get hs) h1 j h2 (C.2.2.2.2.1 _ h3) (fun _ h => h) (fvs_get hk) hd (k p l e R s m args below meth c1 D cA ta b0 H locs lsA cells slots Fin C hP hS hl hF)
theorem r_getL {idx ci j c : Nat} {fks : List Nat} (hf : FL mt.1.cls idx ci j) (hs : shp[c]? = some (.inl (ci, fks))) (hk : fks[j]? = some 1) (hd : Dc mt pc (.getfield idx) 3 n) (k : Wa X mt d n ls (.long (μ.2 c j) :: st) μ Q) : Wa X mt d pc ls (.ref c :: st) μ Q := by
  intro p l e R s m args below meth c1 D cA ta b0 H locs lsA cells slots Fin C hP hS hl hF
  obtain ⟨hd, rfl⟩ := hd
  obtain ⟨C9, T, N, h1, h2, h3, h4⟩ := hf
  have hc := shp_lt hs
  rw [List.map_cons, cv_ref (by omega)]
  exact va_get C.1 C.2.1 C.2.2.2.2.1 h4 C.2.2.2.1 C.2.2.2.2.2.1.1 hP c (wl_get hs) h1 j h2 (C.2.2.2.2.1 _ h3) (fun _ h => h) (fvs_get hk) hd (k p l e R s m args below meth c1 D cA ta b0 H locs lsA cells slots Fin C hP hS hl hF)
theorem r_getR {idx ci j c r : Nat} {fks : List Nat} (hf : FL mt.1.cls idx ci j) (hs : shp[c]? = some (.inl (ci, fks))) (hk : fks[j]? = some (r + 2)) (hd : Dc mt pc (.getfield idx) 3 n) (k : Wa X mt d n ls (.ref r :: st) μ Q) : Wa X mt d pc ls (.ref c :: st) μ Q := by
  intro p l e R s m args below meth c1 D cA ta b0 H locs lsA cells slots Fin C hP hS hl hF
  obtain ⟨hd, rfl⟩ := hd
  obtain ⟨C9, T, N, h1, h2, h3, h4⟩ := hf
  have hc := shp_lt hs
  have hr := shp_ref _ _ _ _ _ hs hk
  have k1 := k p l e R s m args below meth c1 D cA ta b0 H locs lsA cells slots Fin C hP hS hl hF
  rw [List.map_cons, cv_ref hr] at k1
  rw [List.map_cons, cv_ref (by omega)]
  exact va_get C.1 C.2.1 C.2.2.2.2.1 h4 C.2.2.2.1 C.2.2.2.2.2.1.1 hP c (wl_get hs) h1 j h2 (C.2.2.2.2.1 _ h3) (fun _ h => h) (fvs_get hk) hd k1
theorem r_putT {idx ci j c : Nat} {fks : List Nat} {v : Int32} (ty : FieldType) (hf : FP mt.1.cls idx ci j ty) (hs : shp[c]? = some (.inl (ci, fks))) (hk : fks[j]? = some 0) (hn : narrow ty (.int v) = .int v) (hft : fits ty (.int v) = true) (hd : Dc mt pc (.putfield idx) 3 n) (k : Wa X mt d n ls st (uI μ c j v) Q) : Wa X mt d pc ls (.int v :: .ref c :: st) μ Q := by
  intro p l e R s m args below meth c1 D cA ta b0 H locs lsA cells slots Fin C hP hS hl hF
  obtain ⟨hd, rfl⟩ := hd
  obtain ⟨C9, T, N, t0, h1, h2, h3, h4, h5, h6, h7, h8⟩ := hf
  have hc := shp_lt hs
  rw [List.map_cons, List.map_cons, cv_ref (by omega)]
  refine va_put C.1 C.2.1 C.2.2.2.2.1 h4 t0 h5 h6 C.2.2.2.1 C.2.2.2.2.2.1.1 hP wl_D hS c (wl_get hs) h1 j h2 (C.2.2.2.2.1 _ h3) (fun _ h => h) h7 h8 hn hft (by simp [fvs]; exact (List.getElem?_eq_some_iff.mp hk).1) hd (fun H1 locs1 hP1 _ hS1 => ?_)
  have hP1 : va_P D kl ((wl b0 cA μ).set c (b0 + c, .inr (ci, (fvs b0 μ c fks).set j (.int v)))) H1 := hP1
  rw [fvs_set hk, wl_set (μ' := uI μ c j v) (sp := .inl (ci, fks)) (e := .inr (ci, fvs b0 (uI μ c j v) c fks)) hs rfl (fun c' sp' hne => ea_rI_ne hne)] at hP1
  exact k p l e R s m args below meth c1 D cA ta b0 H1 locs1 lsA cells slots Fin C hP1 hS1 hl hF
theorem r_putI {idx ci j c : Nat} {fks : List Nat} {v : Int32} (hf : FP mt.1.cls idx ci j .int) (hs : shp[c]? = some (.inl (ci, fks))) (hk : fks[j]? = some 0) (hd : Dc mt pc (.putfield idx) 3 n) (k : Wa X mt d n ls st (uI μ c j v) Q) : Wa X mt d pc ls (.int v :: .ref c :: st) μ Q := r_putT .int hf hs hk rfl rfl hd k
theorem r_putZ {idx ci j c : Nat} {fks : List Nat} {v : Int32} (hf : FP mt.1.cls idx ci j .boolean) (hs : shp[c]? = some (.inl (ci, fks))) (hk : fks[j]? = some 0) (hv : v = 0 ∨ v = 1) (hd : Dc mt pc (.putfield idx) 3 n) (k : Wa X mt d n ls st (uI μ c j v) Q) : Wa X mt d pc ls (.int v :: .ref c :: st) μ Q := r_putT .boolean hf hs hk (by rcases hv with rfl | rfl <;> decide) (by rcases hv with rfl | rfl <;> decide) hd k
theorem r_putL {idx ci j c : Nat} {fks : List Nat} {v : Int64} (hf : FP mt.1.cls idx ci j .long) (hs : shp[c]? = some (.inl (ci, fks))) (hk : fks[j]? = some 1) (hd : Dc mt pc (.putfield idx) 3 n) (k : Wa X mt d n ls st (uL μ c j v) Q) : Wa X mt d pc ls (.long v :: .ref c :: st) μ Q := by
  intro p l e R s m args below meth c1 D cA ta b0 H locs lsA cells slots Fin C hP hS hl hF
  obtain ⟨hd, rfl⟩ := hd
  obtain ⟨C9, T, N, t0, h1, h2, h3, h4, h5, h6, h7, h8⟩ := hf
  have hc := shp_lt hs
  rw [List.map_cons, List.map_cons, cv_ref (by omega)]
  refine va_put C.1 C.2.1 C.2.2.2.2.1 h4 t0 h5 h6 C.2.2.2.1 C.2.2.2.2.2.1.1 hP wl_D hS c (wl_get hs) h1 j h2 (C.2.2.2.2.1 _ h3) (fun _ h => h) h7 h8 rfl rfl (by simp [fvs]; exact (List.getElem?_eq_some_iff.mp hk).1) hd (fun H1 locs1 hP1 _ hS1 => ?_)
  have hP1 : va_P D kl ((wl b0 cA μ).set c (b0 + c, .inr (ci, (fvs b0 μ c fks).set j (.long v)))) H1 := hP1
  rw [fvs_setL hk, wl_set (μ' := uL μ c j v) (sp := .inl (ci, fks)) (e := .inr (ci, fvs b0 (uL μ c j v) c fks)) hs rfl (fun c' sp' hne => ea_rL_ne hne)] at hP1
  exact k p l e R s m args below meth c1 D cA ta b0 H1 locs1 lsA cells slots Fin C hP1 hS1 hl hF
-- arrays
theorem r_iald {c N b g : Nat} {i : Int32} (hs : shp[c]? = some (.inr (0, N, b, g))) (hi : vp_in i N) (hd : Dc mt pc .iaload 1 n) (k : Wa X mt d n ls (.int (μ.1 c i.toNatClampNeg) :: st) μ Q) : Wa X mt d pc ls (.int i :: .ref c :: st) μ Q := by
  intro p l e R s m args below meth c1 D cA ta b0 H locs lsA cells slots Fin C hP hS hl hF
  obtain ⟨hd, rfl⟩ := hd
  have hc := shp_lt hs
  rw [List.map_cons, List.map_cons, cv_ref (by omega)]
  exact va_iald C.1 C.2.1 C.2.2.2.2.2.1.1 hP c 0 (wl_get hs) rfl hi hd (k p l e R s m args below meth c1 D cA ta b0 H locs lsA cells slots Fin C hP hS hl hF)
theorem r_bald {c N b g : Nat} {i : Int32} (hs : shp[c]? = some (.inr (1, N, b, g))) (hi : vp_in i N) (hd : Dc mt pc .baload 1 n) (k : Wa X mt d n ls (.int (μ.1 c i.toNatClampNeg) :: st) μ Q) : Wa X mt d pc ls (.int i :: .ref c :: st) μ Q := by
  intro p l e R s m args below meth c1 D cA ta b0 H locs lsA cells slots Fin C hP hS hl hF
  obtain ⟨hd, rfl⟩ := hd
  have hc := shp_lt hs
  rw [List.map_cons, List.map_cons, cv_ref (by omega)]
  exact va_bald C.1 C.2.1 C.2.2.2.2.2.1.1 hP c 1 (wl_get hs) rfl hi hd (k p l e R s m args below meth c1 D cA ta b0 H locs lsA cells slots Fin C hP hS hl hF)
theorem r_lald {c N b g : Nat} {i : Int32} (hs : shp[c]? = some (.inr (2, N, b, g))) (hi : vp_in i N) (hd : Dc mt pc .laload 1 n) (k : Wa X mt d n ls (.long (μ.2 c i.toNatClampNeg) :: st) μ Q) : Wa X mt d pc ls (.int i :: .ref c :: st) μ Q := by
  intro p l e R s m args below meth c1 D cA ta b0 H locs lsA cells slots Fin C hP hS hl hF
  obtain ⟨hd, rfl⟩ := hd
  have hc := shp_lt hs
  rw [List.map_cons, List.map_cons, cv_ref (by omega)]
  exact va_lald C.1 C.2.1 C.2.2.2.2.2.1.1 hP c 2 (wl_get hs) rfl hi hd (k p l e R s m args below meth c1 D cA ta b0 H locs lsA cells slots Fin C hP hS hl hF)
theorem r_aald3 {c N b g : Nat} {i : Int32} (hs : shp[c]? = some (.inr (3, N, b, g))) (h4 : N ≤ 4) (hi : vp_in i N) (hd : Dc mt pc .aaload 1 n) (k : Wa X mt d n ls (.ref (b + g * i.toNatClampNeg) :: st) μ Q) : Wa X mt d pc ls (.int i :: .ref c :: st) μ Q := by
  intro p l e R s m args below meth c1 D cA ta b0 H locs lsA cells slots Fin C hP hS hl hF
  obtain ⟨hd, rfl⟩ := hd
  have hc := shp_lt hs
  have hlt : i.toNatClampNeg < N := Nat.not_le.mp fun q => hi (Or.inr q)
  have hb := (shp_len _ _ _ _ _ hs).2
  have hg : g * i.toNatClampNeg ≤ g * 4 := Nat.mul_le_mul_left g (by omega)
  have hr : b + g * i.toNatClampNeg < 1000 := by
    rw [Nat.mul_comm g 4] at hg
    rw [Nat.mul_comm g 4] at hb
    omega
  have k1 := k p l e R s m args below meth c1 D cA ta b0 H locs lsA cells slots Fin C hP hS hl hF
  rw [List.map_cons, cv_ref hr] at k1
  rw [List.map_cons, List.map_cons, cv_ref (by omega)]
  have he : (wl b0 cA μ)[c]? = some (b0 + c, .inl (cA 3, N, .inr (.inr (.inr (.inr (fun j => some (b0 + (b + g * j)))))))) := wl_get (b0 := b0) (cA := cA) (μ := μ) hs
  exact va_aldq (C := R_Learner) C.1 C.2.1 C.2.2.2.2.2.1.1 hP c 3 he rfl hi hd k1
theorem r_aald4 {c N b g : Nat} {i : Int32} (hs : shp[c]? = some (.inr (4, N, b, g))) (h4 : N ≤ 4) (hi : vp_in i N) (hd : Dc mt pc .aaload 1 n) (k : Wa X mt d n ls (.ref (b + g * i.toNatClampNeg) :: st) μ Q) : Wa X mt d pc ls (.int i :: .ref c :: st) μ Q := by
  intro p l e R s m args below meth c1 D cA ta b0 H locs lsA cells slots Fin C hP hS hl hF
  obtain ⟨hd, rfl⟩ := hd
  have hc := shp_lt hs
  have hlt : i.toNatClampNeg < N := Nat.not_le.mp fun q => hi (Or.inr q)
  have hb := (shp_len _ _ _ _ _ hs).2
  have hg : g * i.toNatClampNeg ≤ g * 4 := Nat.mul_le_mul_left g (by omega)
  have hr : b + g * i.toNatClampNeg < 1000 := by
    rw [Nat.mul_comm g 4] at hg
    rw [Nat.mul_comm g 4] at hb
    omega
  have k1 := k p l e R s m args below meth c1 D cA ta b0 H locs lsA cells slots Fin C hP hS hl hF
  rw [List.map_cons, cv_ref hr] at k1
  rw [List.map_cons, List.map_cons, cv_ref (by omega)]
  have he : (wl b0 cA μ)[c]? = some (b0 + c, .inl (cA 4, N, .inr (.inr (.inr (.inr (fun j => some (b0 + (b + g * j)))))))) := wl_get (b0 := b0) (cA := cA) (μ := μ) hs
  exact va_aldq (C := R_Sheet) C.1 C.2.1 C.2.2.2.2.2.1.1 hP c 4 he rfl hi hd k1
theorem r_aald5 {c N b g : Nat} {i : Int32} (hs : shp[c]? = some (.inr (5, N, b, g))) (h4 : N ≤ 4) (hi : vp_in i N) (hd : Dc mt pc .aaload 1 n) (k : Wa X mt d n ls (.ref (b + g * i.toNatClampNeg) :: st) μ Q) : Wa X mt d pc ls (.int i :: .ref c :: st) μ Q := by
  intro p l e R s m args below meth c1 D cA ta b0 H locs lsA cells slots Fin C hP hS hl hF
  obtain ⟨hd, rfl⟩ := hd
  have hc := shp_lt hs
  have hlt : i.toNatClampNeg < N := Nat.not_le.mp fun q => hi (Or.inr q)
  have hb := (shp_len _ _ _ _ _ hs).2
  have hg : g * i.toNatClampNeg ≤ g * 4 := Nat.mul_le_mul_left g (by omega)
  have hr : b + g * i.toNatClampNeg < 1000 := by
    rw [Nat.mul_comm g 4] at hg
    rw [Nat.mul_comm g 4] at hb
    omega
  have k1 := k p l e R s m args below meth c1 D cA ta b0 H locs lsA cells slots Fin C hP hS hl hF
  rw [List.map_cons, cv_ref hr] at k1
  rw [List.map_cons, List.map_cons, cv_ref (by omega)]
  have he : (wl b0 cA μ)[c]? = some (b0 + c, .inl (cA 5, N, .inr (.inr (.inr (.inr (fun j => some (b0 + (b + g * j)))))))) := wl_get (b0 := b0) (cA := cA) (μ := μ) hs
  exact va_aldq (C := R_Shelf) C.1 C.2.1 C.2.2.2.2.2.1.1 hP c 5 he rfl hi hd k1
theorem r_iast {c N b g : Nat} {i v : Int32} (hs : shp[c]? = some (.inr (0, N, b, g))) (hi : vp_in i N) (hd : Dc mt pc .iastore 1 n) (k : Wa X mt d n ls st (uI μ c i.toNatClampNeg v) Q) : Wa X mt d pc ls (.int v :: .int i :: .ref c :: st) μ Q := by
  intro p l e R s m args below meth c1 D cA ta b0 H locs lsA cells slots Fin C hP hS hl hF
  obtain ⟨hd, rfl⟩ := hd
  have hc := shp_lt hs
  rw [List.map_cons, List.map_cons, List.map_cons, cv_ref (by omega)]
  refine va_iast C.1 C.2.1 C.2.2.2.2.2.1.1 hP wl_D hS c 0 (wl_get hs) rfl hi hd (fun H1 locs1 hP1 _ hS1 => ?_)
  rw [wl_set (μ' := uI μ c i.toNatClampNeg v) hs (by simp [ea, av, uI, rI_eq]) (fun c' sp' hne => ea_rI_ne hne)] at hP1
  exact k p l e R s m args below meth c1 D cA ta b0 H1 locs1 lsA cells slots Fin C hP1 hS1 hl hF
theorem r_bast {c N b g : Nat} {i v : Int32} (hs : shp[c]? = some (.inr (1, N, b, g))) (hi : vp_in i N) (hd : Dc mt pc .bastore 1 n) (k : Wa X mt d n ls st (uI μ c i.toNatClampNeg (vp_nar .byte v)) Q) : Wa X mt d pc ls (.int v :: .int i :: .ref c :: st) μ Q := by
  intro p l e R s m args below meth c1 D cA ta b0 H locs lsA cells slots Fin C hP hS hl hF
  obtain ⟨hd, rfl⟩ := hd
  have hc := shp_lt hs
  rw [List.map_cons, List.map_cons, List.map_cons, cv_ref (by omega)]
  refine va_bast C.1 C.2.1 C.2.2.2.2.2.1.1 hP wl_D hS c 1 (wl_get hs) rfl hi hd (fun H1 locs1 hP1 _ hS1 => ?_)
  rw [wl_set (μ' := uI μ c i.toNatClampNeg (vp_nar .byte v)) hs (by simp [ea, av, uI, rI_eq]) (fun c' sp' hne => ea_rI_ne hne)] at hP1
  exact k p l e R s m args below meth c1 D cA ta b0 H1 locs1 lsA cells slots Fin C hP1 hS1 hl hF
theorem r_last {c N b g : Nat} {i : Int32} {v : Int64} (hs : shp[c]? = some (.inr (2, N, b, g))) (hi : vp_in i N) (hd : Dc mt pc .lastore 1 n) (k : Wa X mt d n ls st (uL μ c i.toNatClampNeg v) Q) : Wa X mt d pc ls (.long v :: .int i :: .ref c :: st) μ Q := by
  intro p l e R s m args below meth c1 D cA ta b0 H locs lsA cells slots Fin C hP hS hl hF
  obtain ⟨hd, rfl⟩ := hd
  have hc := shp_lt hs
  rw [List.map_cons, List.map_cons, List.map_cons, cv_ref (by omega)]
  refine va_last C.1 C.2.1 C.2.2.2.2.2.1.1 hP wl_D hS c 2 (wl_get hs) rfl hi hd (fun H1 locs1 hP1 _ hS1 => ?_)
  rw [wl_set (μ' := uL μ c i.toNatClampNeg v) hs (by simp [ea, av, uL, rL_eq]) (fun c' sp' hne => ea_rL_ne hne)] at hP1
  exact k p l e R s m args below meth c1 D cA ta b0 H1 locs1 lsA cells slots Fin C hP1 hS1 hl hF
-- the static tables
theorem r_gets {idx : Nat} (t : Nat) (ht : t < 8) (hf : Cond.fieldLink mt.1.cls idx "SevenEights" (stn t) "[I" ∈ gtb) (hd : Dc mt pc (.getstatic idx) 3 n) (k : Wa X mt d n ls (.ref (1000 + t) :: st) μ Q) : Wa X mt d pc ls st μ Q := by
  intro p l e R s m args below meth c1 D cA ta b0 H locs lsA cells slots Fin C hP hS hl hF
  obtain ⟨hd, rfl⟩ := hd
  have k1 := k p l e R s m args below meth c1 D cA ta b0 H locs lsA cells slots Fin C hP hS hl hF
  rw [List.map_cons, cv_hi (Nat.le_add_right 1000 t)] at k1
  exact va_gets C.1 C.2.1 (C.2.2.2.2.2.1.2.2.2.1 t ht).1 hS C.2.2.2.1 (C.2.2.2.2.1 _ hf) (fun _ h => h) hd k1
theorem r_getsN {idx : Nat} {host : String} (t : Nat) (ht : t < 8) (hf : (mt.1.cls, idx, "SevenEights", stn t, "[I", host) ∈ nwf) (hd : Dc mt pc (.getstatic idx) 3 n) (k : Wa X mt d n ls (.ref (1000 + t) :: st) μ Q) : Wa X mt d pc ls st μ Q := by
  intro p l e R s m args below meth c1 D cA ta b0 H locs lsA cells slots Fin C hP hS hl hF
  obtain ⟨hd, rfl⟩ := hd
  have k1 := k p l e R s m args below meth c1 D cA ta b0 H locs lsA cells slots Fin C hP hS hl hF
  rw [List.map_cons, cv_hi (Nat.le_add_right 1000 t)] at k1
  exact va_getsN C.1 C.2.1 (C.2.2.2.2.2.1.2.2.2.1 t ht).1 hS C.2.2.2.1 (va_Nw.use rfl (C.2.2.2.2.2.1.2.2.1 _ hf)) (fun _ h => h) hd k1
theorem r_tald {t : Nat} {i : Int32} (ht : t < 8) (hi : vp_in i (sta t).length) (hd : Dc mt pc .iaload 1 n) (k : Wa X mt d n ls (.int ((sta t).getD i.toNatClampNeg 0) :: st) μ Q) : Wa X mt d pc ls (.int i :: .ref (1000 + t) :: st) μ Q := by
  intro p l e R s m args below meth c1 D cA ta b0 H locs lsA cells slots Fin C hP hS hl hF
  obtain ⟨hd, rfl⟩ := hd
  have k1 := k p l e R s m args below meth c1 D cA ta b0 H locs lsA cells slots Fin C hP hS hl hF
  rw [List.map_cons, List.map_cons, cv_hi (Nat.le_add_right 1000 t)]
  exact va_ti C.1 C.2.1 (C.2.2.2.2.2.1.2.2.2.1 t ht).2 hS hi rfl hd k1
-- constants
theorem r_ldc {idx : Nat} {v : Int32} (hf : Cond.constant mt.1.cls idx v ∈ gtb) (hd : Dc mt pc (.ldc idx) 2 n) (k : Wa X mt d n ls (.int v :: st) μ Q) : Wa X mt d pc ls st μ Q := by
  intro p l e R s m args below meth c1 D cA ta b0 H locs lsA cells slots Fin C hP hS hl hF
  obtain ⟨hd, rfl⟩ := hd
  exact lv_ldc C.1 C.2.1 C.2.2.2.1 (C.2.2.2.2.1 _ hf) hd (k p l e R s m args below meth c1 D cA ta b0 H locs lsA cells slots Fin C hP hS hl hF)
theorem r_ldc_w {idx : Nat} {v : Int32} (hf : Cond.constant mt.1.cls idx v ∈ gtb) (hd : Dc mt pc (.ldc_w idx) 3 n) (k : Wa X mt d n ls (.int v :: st) μ Q) : Wa X mt d pc ls st μ Q := by
  intro p l e R s m args below meth c1 D cA ta b0 H locs lsA cells slots Fin C hP hS hl hF
  obtain ⟨hd, rfl⟩ := hd
  exact lv_ldcw C.1 C.2.1 C.2.2.2.1 (C.2.2.2.2.1 _ hf) hd (k p l e R s m args below meth c1 D cA ta b0 H locs lsA cells slots Fin C hP hS hl hF)
theorem r_ldc2 {idx : Nat} {v : Int64} (hf : Cond.constantLong mt.1.cls idx v ∈ gtb) (hd : Dc mt pc (.ldc2_w idx) 3 n) (k : Wa X mt d n ls (.long v :: st) μ Q) : Wa X mt d pc ls st μ Q := by
  intro p l e R s m args below meth c1 D cA ta b0 H locs lsA cells slots Fin C hP hS hl hF
  obtain ⟨hd, rfl⟩ := hd
  exact lv_ldc2 C.1 C.2.1 C.2.2.2.1 (C.2.2.2.2.1 _ hf) hd (k p l e R s m args below meth c1 D cA ta b0 H locs lsA cells slots Fin C hP hS hl hF)
theorem r_ldcS {idx : Nat} (q : Nat) (hq : q < 4) (hm : mt.1.cls = "SevenEights$Text") (hi : (ssx q).2 = idx) (hd : Dc mt pc (.ldc idx) 2 n) (k : Wa X mt d n ls (.ref (2000 + q) :: st) μ Q) : Wa X mt d pc ls st μ Q := by
  intro p l e R s m args below meth c1 D cA ta b0 H locs lsA cells slots Fin C hP hS hl hF
  obtain ⟨hd, rfl⟩ := hd
  have k1 := k p l e R s m args below meth c1 D cA ta b0 H locs lsA cells slots Fin C hP hS hl hF
  rw [List.map_cons, cv_hi (show 1000 ≤ 2000 + q by omega)] at k1
  subst hi
  exact va_ldcS (own := "SevenEights$Text") C.1 C.2.1 (by rw [← hm]; exact C.2.2.2.1) (C.2.2.2.2.2.1.2.2.2.2.1 q hq) hd k1
-- the script
theorem r_sald {i : Int32} (hi : vp_in i X.1) (hd : Dc mt pc .iaload 1 n) (k : Wa X mt d n ls (.int (X.2 i.toNatClampNeg) :: st) μ Q) : Wa X mt d pc ls (.int i :: .ref 3000 :: st) μ Q := by
  intro p l e R s m args below meth c1 D cA ta b0 H locs lsA cells slots Fin C hP hS hl hF
  obtain ⟨hd, rfl⟩ := hd
  obtain ⟨-, -, -, -, -, -, -, h8, h9, h10⟩ := C.2.2.2.2.2.1
  exact va_sld C.1 C.2.1 h8 h9 (fun z => absurd (show b0 ≤ ta 3000 from z) (by omega)) hS hi hd (k p l e R s m args below meth c1 D cA ta b0 H locs lsA cells slots Fin C hP hS hl hF)
theorem r_slen (hd : Dc mt pc .arraylength 1 n) (k : Wa X mt d n ls (.int (Int32.ofNat X.1) :: st) μ Q) : Wa X mt d pc ls (.ref 3000 :: st) μ Q := by
  intro p l e R s m args below meth c1 D cA ta b0 H locs lsA cells slots Fin C hP hS hl hF
  obtain ⟨hd, rfl⟩ := hd
  obtain ⟨-, -, -, -, -, -, -, h8, h9, h10⟩ := C.2.2.2.2.2.1
  exact va_slen C.1 C.2.1 h8 h9 (fun z => absurd (show b0 ≤ ta 3000 from z) (by omega)) hS hd (k p l e R s m args below meth c1 D cA ta b0 H locs lsA cells slots Fin C hP hS hl hF)
-- calls
theorem run_k {p : Program} {l : Launch} {e : Env} {R : Room} {s : State} {m : MethodId} {args : Array Value} {below : List Frame} {meth : Method} {c : Code} {H : Heap} {locs : List Loc} {cells slots pc : Nat} {lsA : Array Slot} {st0 rest : List Value} {Fin : State → Prop} {D : va_G} {cA : Nat → ClassId} {ta : Nat → Nat} {b0 : Nat} {post : Option Value → Me → Prop} {a : Array Value}
    (hr : va_Run p l e R s m args below meth c H locs cells slots 0 0 (F0 m pc lsA st0) rest (Qcx D cA ta b0 post a) (Ab b0)) (hS : va_S (Ab b0) s.heap H locs)
    (kk : ∀ (r : Option Value) (μ' : Me) (H1 : Heap) (locs1 : List Loc), post r μ' → va_P D kl (wl b0 cA μ') H1 → va_S (Ab b0) s.heap H1 locs1 → W p l e R s m args below meth c H1 locs1 cells slots Fin (F0 m (pc + 3) lsA ((r.map (cv b0 ta)).toList ++ rest))) : W p l e R s m args below meth c H locs cells slots Fin (F0 m pc lsA st0) := by
  intro T hT Y
  obtain ⟨v, st₀, t, T', L, h0, Y', hL, e1, e2, ⟨⟨r, μ', hv, hp, hP'⟩, hz, hk⟩, stp⟩ := hr T hT Y
  cases hv
  rw [h0] at hz hk
  obtain ⟨t2, a1, b1⟩ := kk r μ' T'.heap (locs ++ L) hp (by rw [e1]; exact hP') ⟨Nat.le_trans hS.1 (by rw [e1]; exact hz), fun q h1 h2 => by rw [e1, hk q (Nat.lt_of_lt_of_le h1 hS.1) h2]; exact hS.2.1 q h1 h2, fun q hq => by
      rcases List.mem_append.mp hq with h | h
      · exact hS.2.2 q h
      · exact hL q h⟩ T' rfl Y'
  exact ⟨t2, stp t2 a1, b1⟩
/-- what a call site of a static method needs -/
def LkS (own : String) (idx : Nat) (y : MT) (na : Nat) : Prop := Cond.methodLink own idx y.1 ∈ gtb ∧ Cond.static y.1 ∈ gtb ∧ Cond.initialized y.1.cls ∈ gtb ∧ Cond.code y.1 y.2.1 y.2.2.1 y.2.2.2 ∈ gtb ∧ y.2.2.1 ≤ 45 ∧ (y.1.cls ≠ "java/lang/invoke/MethodHandle" ∧ y.1.cls ≠ "java/lang/invoke/VarHandle" ∧ (parseMethodDescriptor y.1.desc).map (fun d => d.parameters.length) = some na)
def LkSN (own : String) (idx : Nat) (y : MT) (na : Nat) : Prop := (∃ host, (own, idx, y.1, host) ∈ nwm) ∧ Cond.static y.1 ∈ gtb ∧ Cond.initialized y.1.cls ∈ gtb ∧ Cond.code y.1 y.2.1 y.2.2.1 y.2.2.2 ∈ gtb ∧ y.2.2.1 ≤ 45 ∧ (y.1.cls ≠ "java/lang/invoke/MethodHandle" ∧ y.1.cls ≠ "java/lang/invoke/VarHandle" ∧ (parseMethodDescriptor y.1.desc).map (fun d => d.parameters.length) = some na)
def LkV (own : String) (idx : Nat) (y : MT) (na ci : Nat) : Prop := Cond.methodLink own idx y.1 ∈ gtb ∧ Cond.instanceMethod y.1 ∈ gtb ∧ Cond.selects y.1.cls y.1 y.1 ∈ gtb ∧ Cond.initialized y.1.cls ∈ gtb ∧ Cond.code y.1 y.2.1 y.2.2.1 y.2.2.2 ∈ gtb ∧ y.2.2.1 ≤ 45 ∧ (y.1.cls ≠ "java/lang/invoke/MethodHandle" ∧ y.1.cls ≠ "java/lang/invoke/VarHandle" ∧ (parseMethodDescriptor y.1.desc).map (fun d => d.parameters.length) = some na) ∧ ∃ q : vw_C, kl[ci]? = some q ∧ q.1 = y.1.cls
theorem good_wsm {y : MT} (h : Cond.code y.1 y.2.1 y.2.2.1 y.2.2.2 ∈ gtb) : GoodIn gtb (wsm y) := fun w hw => by
  rcases List.mem_cons.mp hw with rfl | hw
  · exact gtb_good _ h
  · exact gtb_good _ hw
theorem cvl_rev (b0 : Nat) (ta : Nat → Nat) (As st : List Value) : (As.reverse ++ st).map (cv b0 ta) = (As.map (cv b0 ta)).reverse ++ st.map (cv b0 ta) := by simp
theorem r_callS {y : MT} {idx na d' : Nat} {As st0 : List Value} {post : Option Value → Me → Prop} (hM : Ct y d' As μ post) (hf : LkS mt.1.cls idx y na) (hd : Dc mt pc (.invokestatic idx) 3 n) (hst : st0 = As.reverse ++ st) (hn : As.length = na) (hw : (st.map fun v => v.category).sum ≤ 8) (hdd : d' < d) (k : ∀ r μ', post r μ' → Wa X mt d n ls (r.toList ++ st) μ' Q) : Wa X mt d pc ls st0 μ Q := by
  intro p l e R s m args below meth c D cA ta b0 H locs lsA cells slots Fin C hP hS hl hF
  obtain ⟨hd, rfl⟩ := hd
  obtain ⟨f1, f2, f3, f4, f5, f6⟩ := hf
  obtain ⟨c1, c2, c3, c4, c5, c6, c7, c8, c9, c10⟩ := C
  have hcw := va_cwS (R := R) (rm := rmD d') (mc := 0) (ms := 0) (bytes := y.2.1) (maxL := y.2.2.1) (ret := y.2.2.2) (ws' := gtb) na c5 (show GoodIn gtb (va_wsS mt.1.cls idx y.1 (wsm y)) from fun w hw => by
    rcases List.mem_append.mp hw with h | h
    · simp only [List.mem_cons, List.not_mem_nil, or_false] at h
      rcases h with rfl | rfl | rfl
      · exact gtb_good _ f1
      · exact gtb_good _ f2
      · exact gtb_good _ f3
    · exact good_wsm f4 w h) rfl rfl rfl f6 ⟨by show d' + 1 ≤ R.frames; omega, by show 8 + (y.2.2.1 + 11) + 64 * d' ≤ R.locals; omega⟩
  subst hst
  rw [cvl_rev]
  refine run_k (va_runS ⟨c1, c2, c3, c4, c5⟩ (hM l X D cA ta b0) hcw ⟨Pcx.blind, fun U hU hW => ⟨rfl, by rw [hU]; exact hP, c6.move hS hU hW⟩⟩ rfl (by simpa using hn) (hl.1) rfl (lv_room (by rw [cv_cats]; exact hw)) hd ⟨c9, c10⟩) hS ?_
  intro r μ' H1 locs1 hp hP1 hS1
  have := k r μ' hp p l e R s m args below meth c D cA ta b0 H1 locs1 lsA cells slots Fin ⟨c1, c2, c3, c4, c5, c6, c7, c8, c9, c10⟩ hP1 hS1 hl hF
  rw [List.map_append] at this
  cases r <;> exact this
theorem r_callSN {y : MT} {idx na d' : Nat} {As st0 : List Value} {post : Option Value → Me → Prop} (hM : Ct y d' As μ post) (hf : LkSN mt.1.cls idx y na) (hd : Dc mt pc (.invokestatic idx) 3 n) (hst : st0 = As.reverse ++ st) (hn : As.length = na) (hw : (st.map fun v => v.category).sum ≤ 8) (hdd : d' < d) (k : ∀ r μ', post r μ' → Wa X mt d n ls (r.toList ++ st) μ' Q) : Wa X mt d pc ls st0 μ Q := by
  intro p l e R s m args below meth c D cA ta b0 H locs lsA cells slots Fin C hP hS hl hF
  obtain ⟨hd, rfl⟩ := hd
  obtain ⟨⟨host, f1⟩, f2, f3, f4, f5, f6⟩ := hf
  obtain ⟨c1, c2, c3, c4, c5, c6, c7, c8, c9, c10⟩ := C
  have hcw := va_cnB (R := R) (rm := rmD d') (mc := 0) (ms := 0) (bytes := y.2.1) (maxL := y.2.2.1) (ret := y.2.2.2) (ws' := gtb) na c5 (good_wsm f4) rfl rfl rfl (c6.2.1 _ f1) (c5 _ f3) f6 ⟨by show d' + 1 ≤ R.frames; omega, by show 8 + (y.2.2.1 + 11) + 64 * d' ≤ R.locals; omega⟩
  subst hst
  rw [cvl_rev]
  refine run_k (va_runSN ⟨c1, c2, c3, c4, c5⟩ (hM l X D cA ta b0) ⟨hcw, c5 _ f2, trivial⟩ ⟨Pcx.blind, fun U hU hW => ⟨rfl, by rw [hU]; exact hP, c6.move hS hU hW⟩⟩ rfl (by simpa using hn) (hl.1) rfl (lv_room (by rw [cv_cats]; exact hw)) hd ⟨c9, c10⟩) hS ?_
  intro r μ' H1 locs1 hp hP1 hS1
  have := k r μ' hp p l e R s m args below meth c D cA ta b0 H1 locs1 lsA cells slots Fin ⟨c1, c2, c3, c4, c5, c6, c7, c8, c9, c10⟩ hP1 hS1 hl hF
  rw [List.map_append] at this
  cases r <;> exact this
theorem r_callV {y : MT} {idx na ci d' b : Nat} {fks : List Nat} {As st0 : List Value} {post : Option Value → Me → Prop} (hM : Ct y d' (.ref b :: As) μ post) (hf : LkV mt.1.cls idx y na ci) (hs : shp[b]? = some (.inl (ci, fks))) (hd : Dc mt pc (.invokevirtual idx) 3 n) (hst : st0 = As.reverse ++ .ref b :: st) (hn : As.length = na) (hw : (st.map fun v => v.category).sum ≤ 8) (hdd : d' < d) (k : ∀ r μ', post r μ' → Wa X mt d n ls (r.toList ++ st) μ' Q) : Wa X mt d pc ls st0 μ Q := by
  intro p l e R s m args below meth c D cA ta b0 H locs lsA cells slots Fin C hP hS hl hF
  obtain ⟨hd, rfl⟩ := hd
  obtain ⟨f1, f2, f2b, f3, f4, f5, f6, q, f7, f8⟩ := hf
  obtain ⟨c1, c2, c3, c4, c5, c6, c7, c8, c9, c10⟩ := C
  have hcw := cwV (R := R) (rm := rmD d') (mc := 0) (ms := 0) (bytes := y.2.1) (maxL := y.2.2.1) (ret := y.2.2.2) (ws' := gtb) (C := y.1.cls) na c5 (show GoodIn gtb (wsV mt.1.cls idx y.1.cls y.1 (wsm y)) from fun w hw => by
    rcases List.mem_append.mp hw with h | h
    · simp only [List.mem_cons, List.not_mem_nil, or_false] at h
      rcases h with rfl | rfl | rfl | rfl
      · exact gtb_good _ f1
      · exact gtb_good _ f2
      · exact gtb_good _ f2b
      · exact gtb_good _ f3
    · exact good_wsm f4 w h) rfl rfl rfl ⟨rfl, f6⟩ ⟨by show d' + 1 ≤ R.frames; omega, by show 8 + (y.2.2.1 + 11) + 64 * d' ≤ R.locals; omega⟩
  subst hst
  have hb := shp_lt hs
  rw [cvl_rev, List.map_cons, cv_ref (show b < 1000 by omega)]
  have hM1 := hM l X D cA ta b0
  refine run_k (va_runV ⟨c1, c2, c3, c4, c5⟩ hM1 hcw ⟨Pcx.blind, ?_, fun U hU hW => ⟨by rw [List.map_cons, cv_ref (show b < 1000 by omega)], by rw [hU]; exact hP, c6.move hS hU hW⟩⟩ rfl (by simpa using hn) (hl.1) rfl (lv_room (by rw [cv_cats]; exact hw)) hd ⟨c9, c10⟩) hS ?_
  · rw [← f8]
    exact va_recv c6.1 hP f7 (wl_get hs)
  · intro r μ' H1 locs1 hp hP1 hS1
    have := k r μ' hp p l e R s m args below meth c D cA ta b0 H1 locs1 lsA cells slots Fin ⟨c1, c2, c3, c4, c5, c6, c7, c8, c9, c10⟩ hP1 hS1 hl hF
    rw [List.map_append] at this
    cases r <;> exact this
-- Math
theorem r_min {idx : Nat} {x y : Int32} (hf : Cond.methodLink mt.1.cls idx Lib.Math.min.name ∈ gtb ∧ Cond.static Lib.Math.min.name ∈ gtb ∧ Cond.initialized "java/lang/Math" ∈ gtb ∧ Cond.code Lib.Math.min.name Lib.Math.min.code 2 (some .int) ∈ gtb) (hd : Dc mt pc (.invokestatic idx) 3 n) (hw : (st.map fun v => v.category).sum ≤ 8) (hdd : 0 < d) (k : Wa X mt d n ls (.int (if y < x then y else x) :: st) μ Q) : Wa X mt d pc ls (.int y :: .int x :: st) μ Q := by
  intro p l e R s m args below meth c D cA ta b0 H locs lsA cells slots Fin C hP hS hl hF
  obtain ⟨hd, rfl⟩ := hd
  have k1 := k p l e R s m args below meth c D cA ta b0 H locs lsA cells slots Fin C hP hS hl hF
  obtain ⟨c1, c2, c3, c4, c5, c6, c7, c8, c9, c10⟩ := C
  exact va_mmin c1 c2 (c3.trans hl.1.symm) c4 (c5 _ hf.1) (c5 _ hf.2.1) (c5 _ hf.2.2.1) (c5 _ hf.2.2.2) (by omega) (by rw [cv_cats]; omega) c9 c10 hd k1
theorem r_max {idx : Nat} {x y : Int32} (hf : Cond.methodLink mt.1.cls idx Lib.Math.max.name ∈ gtb ∧ Cond.static Lib.Math.max.name ∈ gtb ∧ Cond.initialized "java/lang/Math" ∈ gtb ∧ Cond.code Lib.Math.max.name Lib.Math.max.code 2 (some .int) ∈ gtb) (hd : Dc mt pc (.invokestatic idx) 3 n) (hw : (st.map fun v => v.category).sum ≤ 8) (hdd : 0 < d) (k : Wa X mt d n ls (.int (if x < y then y else x) :: st) μ Q) : Wa X mt d pc ls (.int y :: .int x :: st) μ Q := by
  intro p l e R s m args below meth c D cA ta b0 H locs lsA cells slots Fin C hP hS hl hF
  obtain ⟨hd, rfl⟩ := hd
  have k1 := k p l e R s m args below meth c D cA ta b0 H locs lsA cells slots Fin C hP hS hl hF
  obtain ⟨c1, c2, c3, c4, c5, c6, c7, c8, c9, c10⟩ := C
  exact va_mmax c1 c2 (c3.trans hl.1.symm) c4 (c5 _ hf.1) (c5 _ hf.2.1) (c5 _ hf.2.2.1) (c5 _ hf.2.2.2) (by omega) (by rw [cv_cats]; omega) c9 c10 hd k1

end Rules
