/-! The memory of both objects: ints and longs by cell and slot; the cells' shapes are fixed (no call makes a cell). -/
abbrev Me : Type := (Nat → Nat → Int32) × (Nat → Nat → Int64)
/-- an object: the number of its class, codes of its fields (0 int, 1 long, r + 2 the cell r); an array: its type (0 int, 1 byte, 2 long, 3 .. of references), length, and for references the first cell and the stride -/
abbrev Sp : Type := (Nat × List Nat) ⊕ (Nat × Nat × Nat × Nat)
def shp : List Sp := [.inl (10, [3, 26, 0, 49, 51, 55, 59, 60, 63, 64, 66, 68, 69, 70]),
  .inl (6, [4, 0, 5, 0, 0, 6]),
  .inr (3, 4, 8, 4),
  .inr (0, 3, 0, 0),
  .inl (3, [7, 8, 9, 0]),
  .inr (0, 12, 0, 0),
  .inr (0, 12, 0, 0),
  .inr (0, 12, 0, 0),
  .inl (2, [0, 0, 11, 12, 13]),
  .inr (0, 36, 0, 0),
  .inr (0, 36, 0, 0),
  .inr (0, 36, 0, 0),
  .inl (2, [0, 0, 15, 16, 17]),
  .inr (0, 36, 0, 0),
  .inr (0, 36, 0, 0),
  .inr (0, 36, 0, 0),
  .inl (2, [0, 0, 19, 20, 21]),
  .inr (0, 36, 0, 0),
  .inr (0, 36, 0, 0),
  .inr (0, 36, 0, 0),
  .inl (2, [0, 0, 23, 24, 25]),
  .inr (0, 36, 0, 0),
  .inr (0, 36, 0, 0),
  .inr (0, 36, 0, 0),
  .inl (6, [27, 0, 28, 0, 0, 29]),
  .inr (3, 4, 31, 4),
  .inr (0, 3, 0, 0),
  .inl (3, [30, 31, 32, 0]),
  .inr (0, 12, 0, 0),
  .inr (0, 12, 0, 0),
  .inr (0, 12, 0, 0),
  .inl (2, [0, 0, 34, 35, 36]),
  .inr (0, 36, 0, 0),
  .inr (0, 36, 0, 0),
  .inr (0, 36, 0, 0),
  .inl (2, [0, 0, 38, 39, 40]),
  .inr (0, 36, 0, 0),
  .inr (0, 36, 0, 0),
  .inr (0, 36, 0, 0),
  .inl (2, [0, 0, 42, 43, 44]),
  .inr (0, 36, 0, 0),
  .inr (0, 36, 0, 0),
  .inr (0, 36, 0, 0),
  .inl (2, [0, 0, 46, 47, 48]),
  .inr (0, 36, 0, 0),
  .inr (0, 36, 0, 0),
  .inr (0, 36, 0, 0),
  .inl (9, [50, 0, 0]),
  .inr (1, 200, 0, 0),
  .inl (3, [52, 53, 54, 0]),
  .inr (0, 12, 0, 0),
  .inr (0, 12, 0, 0),
  .inr (0, 12, 0, 0),
  .inl (2, [0, 0, 56, 57, 58]),
  .inr (0, 36, 0, 0),
  .inr (0, 36, 0, 0),
  .inr (0, 36, 0, 0),
  .inl (0, [0, 0, 0, 0]),
  .inl (4, [61, 62, 0, 0, 0]),
  .inr (0, 36, 0, 0),
  .inr (0, 36, 0, 0),
  .inr (0, 36, 0, 0),
  .inl (5, [65, 0]),
  .inr (0, 36, 0, 0),
  .inl (5, [67, 0]),
  .inr (0, 36, 0, 0),
  .inr (4, 4, 70, 2),
  .inr (5, 4, 78, 1),
  .inl (1, [0, 0, 0, 0, 71, 0]),
  .inr (0, 30, 0, 0),
  .inl (7, [0, 0, 73]),
  .inr (2, 40, 0, 0),
  .inl (7, [0, 0, 75]),
  .inr (2, 40, 0, 0),
  .inl (7, [0, 0, 77]),
  .inr (2, 40, 0, 0),
  .inl (7, [0, 0, 79]),
  .inr (2, 40, 0, 0),
  .inl (8, [0, 0, 0]),
  .inl (8, [0, 0, 0]),
  .inl (8, [0, 0, 0]),
  .inl (8, [0, 0, 0]),
  .inl (11, [85, 0, 86, 87, 0, 0, 0, 0, 88, 89, 90, 0, 0, 0, 0, 1, 0, 0, 0, 91, 92, 93, 94, 0, 0, 95, 96, 97, 98, 99, 100, 0, 0, 0, 101, 0, 0, 0, 102, 0, 103]),
  .inr (0, 884, 0, 0),
  .inr (0, 3, 0, 0),
  .inr (0, 3, 0, 0),
  .inr (0, 108, 0, 0),
  .inr (0, 36, 0, 0),
  .inr (0, 200, 0, 0),
  .inr (0, 36, 0, 0),
  .inr (0, 36, 0, 0),
  .inr (0, 36, 0, 0),
  .inr (0, 36, 0, 0),
  .inr (0, 4, 0, 0),
  .inr (0, 4, 0, 0),
  .inr (2, 160, 0, 0),
  .inr (0, 4, 0, 0),
  .inr (0, 4, 0, 0),
  .inr (0, 4, 0, 0),
  .inr (0, 30, 0, 0),
  .inr (0, 490, 0, 0),
  .inr (0, 2, 0, 0)]
def fv (b0 : Nat) (μ : Me) (c j k : Nat) : Value := match k with
  | 0 => .int (μ.1 c j)
  | 1 => .long (μ.2 c j)
  | r + 2 => .ref (b0 + r)
def fvs (b0 : Nat) (μ : Me) (c : Nat) (fks : List Nat) : List Value := fks.mapIdx (fun j k => fv b0 μ c j k)
def av (b0 : Nat) (μ : Me) (c : Nat) (q : Nat × Nat × Nat × Nat) : vp_A := (q.2.1, match q.1 with
  | 0 => .inl (μ.1 c)
  | 1 => .inl (μ.1 c)
  | 2 => .inr (.inl (μ.2 c))
  | _ => .inr (.inr (.inr (.inr (fun j => some (b0 + (q.2.2.1 + q.2.2.2 * j)))))))
def ea (b0 : Nat) (cA : Nat → ClassId) (μ : Me) (c : Nat) (sp : Sp) : va_E := match sp with
  | .inl q => .inr (q.1, fvs b0 μ c q.2)
  | .inr q => .inl (cA q.1, av b0 μ c q)
def wl (b0 : Nat) (cA : Nat → ClassId) (μ : Me) : va_W := shp.mapIdx (fun c sp => (b0 + c, ea b0 cA μ c sp))
def Ab (b0 : Nat) : Nat → Prop := fun q => b0 ≤ q
/-- a row of ints set; one int; one long; a row of longs -/
def rI (μ : Me) (c : Nat) (f : Nat → Int32) : Me := (fun c' => if c' = c then f else μ.1 c', μ.2)
def uI (μ : Me) (c j : Nat) (v : Int32) : Me := rI μ c (upd (μ.1 c) j v)
def rL (μ : Me) (c : Nat) (f : Nat → Int64) : Me := (μ.1, fun c' => if c' = c then f else μ.2 c')
def uL (μ : Me) (c j : Nat) (v : Int64) : Me := rL μ c (vp_updL (μ.2 c) j v)
theorem wl_get {b0 : Nat} {cA : Nat → ClassId} {μ : Me} {c : Nat} {sp : Sp} (h : shp[c]? = some sp) : (wl b0 cA μ)[c]? = some (b0 + c, ea b0 cA μ c sp) := by
  simp [wl, List.getElem?_mapIdx, h]
theorem wl_D {b0 : Nat} {cA : Nat → ClassId} {μ : Me} : va_D (Ab b0) (wl b0 cA μ) := by
  refine ⟨fun i j p q hi hj hpq => ?_, fun k q hk => ?_⟩
  · simp only [wl, List.getElem?_mapIdx, Option.map_eq_some_iff] at hi hj
    obtain ⟨a, -, rfl⟩ := hi
    obtain ⟨b, -, rfl⟩ := hj
    simp only at hpq
    omega
  · simp only [wl, List.getElem?_mapIdx, Option.map_eq_some_iff] at hk
    obtain ⟨a, -, rfl⟩ := hk
    exact Nat.le_add_right _ _
theorem ea_rI_ne {b0 : Nat} {cA : Nat → ClassId} {μ : Me} {c c' : Nat} {f : Nat → Int32} {sp : Sp} (h : c' ≠ c) : ea b0 cA (rI μ c f) c' sp = ea b0 cA μ c' sp := by
  have e1 : (rI μ c f).1 c' = μ.1 c' := by simp [rI, h]
  have e2 : (rI μ c f).2 = μ.2 := rfl
  cases sp with
  | inl q => simp only [ea, fvs, fv, e1, e2]
  | inr q => simp only [ea, av, e1, e2]
theorem ea_rL_ne {b0 : Nat} {cA : Nat → ClassId} {μ : Me} {c c' : Nat} {f : Nat → Int64} {sp : Sp} (h : c' ≠ c) : ea b0 cA (rL μ c f) c' sp = ea b0 cA μ c' sp := by
  have e1 : (rL μ c f).2 c' = μ.2 c' := by simp [rL, h]
  have e2 : (rL μ c f).1 = μ.1 := rfl
  cases sp with
  | inl q => simp only [ea, fvs, fv, e1, e2]
  | inr q => simp only [ea, av, e1, e2]
theorem wl_set {b0 : Nat} {cA : Nat → ClassId} {μ μ' : Me} {c : Nat} {sp : Sp} {e : va_E} (h : shp[c]? = some sp) (he : e = ea b0 cA μ' c sp) (hne : ∀ (c' : Nat) (sp' : Sp), c' ≠ c → ea b0 cA μ' c' sp' = ea b0 cA μ c' sp') : (wl b0 cA μ).set c (b0 + c, e) = wl b0 cA μ' := by
  apply List.ext_getElem?
  intro i
  by_cases hi : i = c
  · subst hi
    have hl : i < (wl b0 cA μ).length := (List.getElem?_eq_some_iff.mp (wl_get (b0 := b0) (cA := cA) (μ := μ) h)).1
    rw [List.getElem?_set_self hl, wl_get h, he]
  · rw [List.getElem?_set_ne (Ne.symm hi)]
    simp only [wl, List.getElem?_mapIdx]
    cases shp[i]? with
    | none => rfl
    | some s2 => simp only [Option.map_some]; rw [hne i s2 hi]
theorem fvs_set {b0 : Nat} {μ : Me} {c k : Nat} {fks : List Nat} {v : Int32} (h : fks[k]? = some 0) : (fvs b0 μ c fks).set k (.int v) = fvs b0 (uI μ c k v) c fks := by
  apply List.ext_getElem?
  intro i
  have hl : k < (fvs b0 μ c fks).length := by simp [fvs]; exact (List.getElem?_eq_some_iff.mp h).1
  by_cases hi : i = k
  · subst hi
    rw [List.getElem?_set_self hl]
    simp [fvs, List.getElem?_mapIdx, h, fv, uI, rI, upd]
  · rw [List.getElem?_set_ne (Ne.symm hi)]
    simp only [fvs, List.getElem?_mapIdx]
    cases fks[i]? with
    | none => rfl
    | some s2 =>
      simp only [Option.map_some]
      rcases s2 with _ | _ | r
      · simp [fv, uI, rI, upd, hi]
      · simp [fv, uI, rI]
      · simp [fv]
theorem fvs_setL {b0 : Nat} {μ : Me} {c k : Nat} {fks : List Nat} {v : Int64} (h : fks[k]? = some 1) : (fvs b0 μ c fks).set k (.long v) = fvs b0 (uL μ c k v) c fks := by
  apply List.ext_getElem?
  intro i
  have hl : k < (fvs b0 μ c fks).length := by simp [fvs]; exact (List.getElem?_eq_some_iff.mp h).1
  by_cases hi : i = k
  · subst hi
    rw [List.getElem?_set_self hl]
    simp [fvs, List.getElem?_mapIdx, h, fv, uL, rL, vp_updL]
  · rw [List.getElem?_set_ne (Ne.symm hi)]
    simp only [fvs, List.getElem?_mapIdx]
    cases fks[i]? with
    | none => rfl
    | some s2 =>
      simp only [Option.map_some]
      rcases s2 with _ | _ | r
      · simp [fv, uL, rL]
      · simp [fv, uL, rL, vp_updL, hi]
      · simp [fv]
theorem fvs_get {b0 : Nat} {μ : Me} {c k z : Nat} {fks : List Nat} (h : fks[k]? = some z) : (fvs b0 μ c fks)[k]? = some (fv b0 μ c k z) := by
  simp [fvs, List.getElem?_mapIdx, h]
/-- every reference field names a cell -/
theorem shp_ref : ∀ (c ci : Nat) (fks : List Nat) (k r : Nat), shp[c]? = some (.inl (ci, fks)) → fks[k]? = some (r + 2) → r < 1000 := by
  intro c ci fks k r h1 h2
  have h3 : shp.all (fun sp => match sp with | .inl q => q.2.all (fun z => decide (z < 1000)) | .inr q => decide (q.2.1 ≤ 884 ∧ q.2.2.1 + q.2.2.2 * 4 < 1000)) = true := by decide +kernel
  have h4 := List.all_eq_true.mp h3 _ (List.mem_of_getElem? h1)
  have h5 := List.all_eq_true.mp h4 _ (List.mem_of_getElem? h2)
  have := of_decide_eq_true h5
  omega
theorem shp_lt {c : Nat} {sp : Sp} (h : shp[c]? = some sp) : c < 102 := (List.getElem?_eq_some_iff.mp h).1
theorem shp_len : ∀ (c t n b s : Nat), shp[c]? = some (.inr (t, n, b, s)) → n ≤ 884 ∧ b + s * 4 < 1000 := by
  intro c t n b s h1
  have h3 : shp.all (fun sp => match sp with | .inl q => q.2.all (fun z => decide (z < 1000)) | .inr q => decide (q.2.1 ≤ 884 ∧ q.2.2.1 + q.2.2.2 * 4 < 1000)) = true := by decide +kernel
  have h4 := List.all_eq_true.mp h3 _ (List.mem_of_getElem? h1)
  exact of_decide_eq_true h4
theorem rI_ne {μ : Me} {c c' : Nat} {f : Nat → Int32} (h : c' ≠ c) : (rI μ c f).1 c' = μ.1 c' := by simp [rI, h]
theorem rI_eq {μ : Me} {c : Nat} {f : Nat → Int32} : (rI μ c f).1 c = f := by simp [rI]
theorem rI_2 {μ : Me} {c : Nat} {f : Nat → Int32} : (rI μ c f).2 = μ.2 := rfl
theorem uI_ne {μ : Me} {c c' j : Nat} {v : Int32} (h : c' ≠ c) : (uI μ c j v).1 c' = μ.1 c' := rI_ne h
theorem uI_eq {μ : Me} {c j : Nat} {v : Int32} : (uI μ c j v).1 c = upd (μ.1 c) j v := rI_eq
theorem uI_2 {μ : Me} {c j : Nat} {v : Int32} : (uI μ c j v).2 = μ.2 := rfl
theorem uI_at {μ : Me} {c j : Nat} {v : Int32} : (uI μ c j v).1 c j = v := by rw [uI_eq]; simp [upd]
theorem uI_off {μ : Me} {c j k : Nat} {v : Int32} (h : k ≠ j) : (uI μ c j v).1 c k = μ.1 c k := by rw [uI_eq]; simp [upd, h]
theorem rL_ne {μ : Me} {c c' : Nat} {f : Nat → Int64} (h : c' ≠ c) : (rL μ c f).2 c' = μ.2 c' := by simp [rL, h]
theorem rL_eq {μ : Me} {c : Nat} {f : Nat → Int64} : (rL μ c f).2 c = f := by simp [rL]
theorem uL_1 {μ : Me} {c j : Nat} {v : Int64} : (uL μ c j v).1 = μ.1 := rfl
theorem uL_ne {μ : Me} {c c' j : Nat} {v : Int64} (h : c' ≠ c) : (uL μ c j v).2 c' = μ.2 c' := rL_ne h
theorem uL_eq {μ : Me} {c j : Nat} {v : Int64} : (uL μ c j v).2 c = vp_updL (μ.2 c) j v := rL_eq
