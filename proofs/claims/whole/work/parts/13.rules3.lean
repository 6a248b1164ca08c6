/-! contracts that say the answer and the memory; calls by them -/
abbrev CtI (y : MT) (d : Nat) (As : List Value) (μ : Me) (v : Int32) (μ1 : Me) : Prop := Ct y d As μ (fun r μ' => r = some (.int v) ∧ μ' = μ1)
abbrev CtL (y : MT) (d : Nat) (As : List Value) (μ : Me) (v : Int64) (μ1 : Me) : Prop := Ct y d As μ (fun r μ' => r = some (.long v) ∧ μ' = μ1)
abbrev CtV (y : MT) (d : Nat) (As : List Value) (μ : Me) (μ1 : Me) : Prop := Ct y d As μ (fun r μ' => r = none ∧ μ' = μ1)
abbrev CtA (y : MT) (d : Nat) (As : List Value) (μ : Me) (v : Value) (μ1 : Me) : Prop := Ct y d As μ (fun r μ' => r = some v ∧ μ' = μ1)
section Rules3
variable {X : Nat × (Nat → Int32)} {mt : MT} {d pc n : Nat} {ls st : List Value} {μ μ1 : Me} {Q : Option Value → Me → Prop} {y : MT} {idx na d' : Nat} {As st0 : List Value}
theorem r_callSi {v : Int32} (hM : CtI y d' As μ v μ1) (hf : LkS mt.1.cls idx y na) (hd : Dc mt pc (.invokestatic idx) 3 n) (hst : st0 = As.reverse ++ st) (hn : As.length = na) (hw : (st.map fun v => v.category).sum ≤ 8) (hdd : d' < d) (k : Wa X mt d n ls (.int v :: st) μ1 Q) : Wa X mt d pc ls st0 μ Q := r_callS hM hf hd hst hn hw hdd (fun _ _ h => by obtain ⟨rfl, rfl⟩ := h; exact k)
theorem r_callSl {v : Int64} (hM : CtL y d' As μ v μ1) (hf : LkS mt.1.cls idx y na) (hd : Dc mt pc (.invokestatic idx) 3 n) (hst : st0 = As.reverse ++ st) (hn : As.length = na) (hw : (st.map fun v => v.category).sum ≤ 8) (hdd : d' < d) (k : Wa X mt d n ls (.long v :: st) μ1 Q) : Wa X mt d pc ls st0 μ Q := r_callS hM hf hd hst hn hw hdd (fun _ _ h => by obtain ⟨rfl, rfl⟩ := h; exact k)
theorem r_callSv (hM : CtV y d' As μ μ1) (hf : LkS mt.1.cls idx y na) (hd : Dc mt pc (.invokestatic idx) 3 n) (hst : st0 = As.reverse ++ st) (hn : As.length = na) (hw : (st.map fun v => v.category).sum ≤ 8) (hdd : d' < d) (k : Wa X mt d n ls st μ1 Q) : Wa X mt d pc ls st0 μ Q := r_callS hM hf hd hst hn hw hdd (fun _ _ h => by obtain ⟨rfl, rfl⟩ := h; exact k)
theorem r_callSNi {v : Int32} (hM : CtI y d' As μ v μ1) (hf : LkSN mt.1.cls idx y na) (hd : Dc mt pc (.invokestatic idx) 3 n) (hst : st0 = As.reverse ++ st) (hn : As.length = na) (hw : (st.map fun v => v.category).sum ≤ 8) (hdd : d' < d) (k : Wa X mt d n ls (.int v :: st) μ1 Q) : Wa X mt d pc ls st0 μ Q := r_callSN hM hf hd hst hn hw hdd (fun _ _ h => by obtain ⟨rfl, rfl⟩ := h; exact k)
variable {b ci : Nat} {fks : List Nat}
theorem r_callVi {v : Int32} (hM : CtI y d' (.ref b :: As) μ v μ1) (hf : LkV mt.1.cls idx y na ci) (hs : shp[b]? = some (.inl (ci, fks))) (hd : Dc mt pc (.invokevirtual idx) 3 n) (hst : st0 = As.reverse ++ .ref b :: st) (hn : As.length = na) (hw : (st.map fun v => v.category).sum ≤ 8) (hdd : d' < d) (k : Wa X mt d n ls (.int v :: st) μ1 Q) : Wa X mt d pc ls st0 μ Q := r_callV hM hf hs hd hst hn hw hdd (fun _ _ h => by obtain ⟨rfl, rfl⟩ := h; exact k)
theorem r_callVl {v : Int64} (hM : CtL y d' (.ref b :: As) μ v μ1) (hf : LkV mt.1.cls idx y na ci) (hs : shp[b]? = some (.inl (ci, fks))) (hd : Dc mt pc (.invokevirtual idx) 3 n) (hst : st0 = As.reverse ++ .ref b :: st) (hn : As.length = na) (hw : (st.map fun v => v.category).sum ≤ 8) (hdd : d' < d) (k : Wa X mt d n ls (.long v :: st) μ1 Q) : Wa X mt d pc ls st0 μ Q := r_callV hM hf hs hd hst hn hw hdd (fun _ _ h => by obtain ⟨rfl, rfl⟩ := h; exact k)
theorem r_callVv (hM : CtV y d' (.ref b :: As) μ μ1) (hf : LkV mt.1.cls idx y na ci) (hs : shp[b]? = some (.inl (ci, fks))) (hd : Dc mt pc (.invokevirtual idx) 3 n) (hst : st0 = As.reverse ++ .ref b :: st) (hn : As.length = na) (hw : (st.map fun v => v.category).sum ≤ 8) (hdd : d' < d) (k : Wa X mt d n ls st μ1 Q) : Wa X mt d pc ls st0 μ Q := r_callV hM hf hs hd hst hn hw hdd (fun _ _ h => by obtain ⟨rfl, rfl⟩ := h; exact k)
theorem r_callVa {v : Value} (hM : CtA y d' (.ref b :: As) μ v μ1) (hf : LkV mt.1.cls idx y na ci) (hs : shp[b]? = some (.inl (ci, fks))) (hd : Dc mt pc (.invokevirtual idx) 3 n) (hst : st0 = As.reverse ++ .ref b :: st) (hn : As.length = na) (hw : (st.map fun v => v.category).sum ≤ 8) (hdd : d' < d) (k : Wa X mt d n ls (v :: st) μ1 Q) : Wa X mt d pc ls st0 μ Q := r_callV hM hf hs hd hst hn hw hdd (fun _ _ h => by obtain ⟨rfl, rfl⟩ := h; exact k)
end Rules3
/-! truth values; ints that are small -/
def bz (P : Prop) [Decidable P] : Int32 := if P then 1 else 0
theorem bz_0 {P : Prop} [Decidable P] : bz P = 0 ↔ ¬ P := by unfold bz; split <;> simp_all
theorem bz_1 {P : Prop} [Decidable P] : bz P = 1 ↔ P := by unfold bz; split <;> simp_all
theorem bz_n {P : Prop} [Decidable P] : narrow .boolean (.int (bz P)) = .int (bz P) := by unfold bz; split <;> decide
theorem bz_t {P : Prop} [Decidable P] (h : P) : (1 : Int32) = bz P := by simp [bz, h]
theorem bz_f {P : Prop} [Decidable P] (h : ¬ P) : (0 : Int32) = bz P := by simp [bz, h]
theorem bz_or {P : Prop} [Decidable P] : bz P = 0 ∨ bz P = 1 := by unfold bz; split <;> simp
theorem bz_congr {P R : Prop} [Decidable P] [Decidable R] (h : P ↔ R) : bz P = bz R := by unfold bz; simp [h]
theorem bz_p {P : Prop} [Decidable P] (h : ¬ bz P = 0) : P := Classical.not_not.mp (fun z => h (bz_0.mpr z))
theorem bz_np {P : Prop} [Decidable P] (h : bz P = 0) : ¬ P := bz_0.mp h
