/-! making cells: a calculus for constructors; the cells made so far stand side by side from b0 on -/
abbrev AE : Type := (Nat × List Value) ⊕ (Nat × Nat × ((Nat → Int32) ⊕ (Nat → Int64) ⊕ (Nat → Option Nat)))
def ac (b0 : Nat) (q : Nat × ((Nat → Int32) ⊕ (Nat → Int64) ⊕ (Nat → Option Nat))) : vp_A := (q.1, match q.2 with
  | .inl f => .inl f
  | .inr (.inl g) => .inr (.inl g)
  | .inr (.inr h) => .inr (.inr (.inr (.inr (fun j => (h j).map (fun r => b0 + r))))))
def ce (b0 : Nat) (cA : Nat → ClassId) (ta : Nat → Nat) (a : AE) : va_E := match a with
  | .inl q => .inr (q.1, q.2.map (cv b0 ta))
  | .inr q => .inl (cA q.1, ac b0 q.2)
def wm (b0 : Nat) (cA : Nat → ClassId) (ta : Nat → Nat) (wx : List AE) : va_W := wx.mapIdx (fun c a => (b0 + c, ce b0 cA ta a))
section Wms
variable {b0 : Nat} {cA : Nat → ClassId} {ta : Nat → Nat} {wx : List AE} {c : Nat} {a : AE}
theorem wm_get (h : wx[c]? = some a) : (wm b0 cA ta wx)[c]? = some (b0 + c, ce b0 cA ta a) := by
  simp [wm, List.getElem?_mapIdx, h]
theorem wm_D : va_D (Ab b0) (wm b0 cA ta wx) := by
  refine ⟨fun i j p q hi hj hpq => ?_, fun k q hk => ?_⟩
  · simp only [wm, List.getElem?_mapIdx, Option.map_eq_some_iff] at hi hj
    obtain ⟨a, -, rfl⟩ := hi
    obtain ⟨b, -, rfl⟩ := hj
    simp only at hpq
    omega
  · simp only [wm, List.getElem?_mapIdx, Option.map_eq_some_iff] at hk
    obtain ⟨a, -, rfl⟩ := hk
    exact Nat.le_add_right _ _
theorem wm_set : (wm b0 cA ta wx).set c (b0 + c, ce b0 cA ta a) = wm b0 cA ta (wx.set c a) := by
  apply List.ext_getElem?
  intro i
  by_cases hi : c = i
  · subst hi
    by_cases hl : c < wx.length
    · have hl' : c < (wm b0 cA ta wx).length := by simp [wm]; exact hl
      rw [List.getElem?_set_self hl']
      simp [wm, List.getElem?_mapIdx, hl]
    · have hl' : ¬ c < (wm b0 cA ta wx).length := by simp [wm]; omega
      rw [List.getElem?_eq_none (by rw [List.length_set]; omega), List.getElem?_eq_none (by simp [wm]; omega)]
  · rw [List.getElem?_set_ne hi]
    simp only [wm, List.getElem?_mapIdx]
    rw [List.getElem?_set_ne hi]
theorem wm_push : wm b0 cA ta wx ++ [(b0 + wx.length, ce b0 cA ta a)] = wm b0 cA ta (wx ++ [a]) := by
  unfold wm
  rw [List.mapIdx_concat]
end Wms
def Kn (X : Nat × (Nat → Int32)) (D : va_G) (cA : Nat → ClassId) (ta : Nat → Nat) (b0 : Nat) (U : State) : Prop := Kx X D cA ta b0 U ∧ va_AO R_Learner U ∧ va_AO R_Sheet U ∧ va_AO R_Shelf U
theorem Kn.move {X : Nat × (Nat → Int32)} {D : va_G} {cA : Nat → ClassId} {ta : Nat → Nat} {b0 : Nat} {s U : State} {H : Heap} {locs : List Loc} (h : Kn X D cA ta b0 s) (hS : va_S (Ab b0) s.heap H locs) (hU : U.heap = H) (hW : s.WarmedH U.vm) : Kn X D cA ta b0 U :=
  ⟨h.1.move hS hU hW, h.2.1.moved hW.alike, h.2.2.1.moved hW.alike, h.2.2.2.moved hW.alike⟩
theorem Kn.calling {X : Nat × (Nat → Int32)} {D : va_G} {cA : Nat → ClassId} {ta : Nat → Nat} {b0 : Nat} {U : State} (g : JFrame) (mk : MethodId) (a : Array Value) (h : Kn X D cA ta b0 U) : Kn X D cA ta b0 (U.calling g mk a) :=
  have al : U.vm.Alike (U.calling g mk a).vm := Vm.Alike.refl U.vm
  ⟨h.1.calling g mk a, h.2.1.moved al, h.2.2.1.moved al, h.2.2.2.moved al⟩
def Cn (X : Nat × (Nat → Int32)) (mt : MT) (d : Nat) (p : Program) (R : Room) (s : State) (m : MethodId) (args : Array Value) (meth : Method) (c : Code) (D : va_G) (cA : Nat → ClassId) (ta : Nat → Nat) (b0 : Nat) : Prop :=
  p.tables.exec = Jvm.exec ∧ c.code = mt.2.1 ∧ c.maxLocals = mt.2.2.1 ∧ s.vm.findClass mt.1.cls = some m.cls ∧ (∀ w ∈ gtb, w.before args s = true) ∧ Kn X D cA ta b0 s ∧ d ≤ R.frames ∧ 64 * d ≤ R.locals ∧ (mt.1.name = "<init>" → meth.name = "<init>")
/-- from here, with nc cells and ns slots to make, the method comes to a point that E names -/
def Wn (X : Nat × (Nat → Int32)) (mt : MT) (d pc : Nat) (ls st : List Value) (nc ns : Nat) (wx : List AE) (E : Nat → List Value → List Value → List AE → Prop) : Prop :=
  ∀ (p : Program) (l : Launch) (e : Env) (R : Room) (s : State) (m : MethodId) (args : Array Value) (below : List Frame) (meth : Method) (c : Code) (D : va_G) (cA : Nat → ClassId) (ta : Nat → Nat) (b0 : Nat) (H : Heap) (locs : List Loc) (lsA : Array Slot) (cells slots : Nat) (Fin : State → Prop),
    Cn X mt d p R s m args meth c D cA ta b0 → cells + nc ≤ R.cells → slots + ns ≤ R.slots → s.heap.size + cells = b0 + wx.length → va_P D kl (wm b0 cA ta wx) H → H.size = b0 + wx.length → va_S (Ab b0) s.heap H locs → Lh b0 ta lsA mt.2.2.1 ls →
    (∀ (pc' : Nat) (ls' st' : List Value) (wx' : List AE) (H' : Heap) (locs' : List Loc) (lsA' : Array Slot) (cells' slots' : Nat), E pc' ls' st' wx' → va_P D kl (wm b0 cA ta wx') H' → H'.size = b0 + wx'.length → va_S (Ab b0) s.heap H' locs' → Lh b0 ta lsA' mt.2.2.1 ls' → cells' ≤ cells + nc → slots' ≤ slots + ns → s.heap.size + cells' = b0 + wx'.length → W p l e R s m args below meth c H' locs' cells' slots' Fin (F0 m pc' lsA' (st'.map (cv b0 ta)))) →
    W p l e R s m args below meth c H locs cells slots Fin (F0 m pc lsA (st.map (cv b0 ta)))
section NRules
variable {X : Nat × (Nat → Int32)} {mt : MT} {d pc n nc ns : Nat} {ls st : List Value} {wx : List AE} {E : Nat → List Value → List Value → List AE → Prop}
theorem n_end (h : E pc ls st wx) : Wn X mt d pc ls st nc ns wx E := by
  intro p l e R s m args below meth c D cA ta b0 H locs lsA cells slots Fin C hc hs hq hP hz hS hl hF
  exact hF pc ls st wx H locs lsA cells slots h hP hz hS hl (by omega) (by omega) hq
theorem n_iconst {z : Int} (v : Int32) (hd : Dc mt pc (.iconst z) 1 n) (hv : Int32.ofInt z = v) (k : Wn X mt d n ls (.int v :: st) nc ns wx E) : Wn X mt d pc ls st nc ns wx E := by
  intro p l e R s m args below meth c D cA ta b0 H locs lsA cells slots Fin C hc hs hq hP hz hS hl hF
  obtain ⟨hd, rfl⟩ := hd
  exact lv_iconst C.1 C.2.1 hd hv (k p l e R s m args below meth c D cA ta b0 H locs lsA cells slots Fin C hc hs hq hP hz hS hl hF)
theorem n_bipush {z : Int} (v : Int32) (hd : Dc mt pc (.bipush z) 2 n) (hv : (Int8.ofInt z).toInt32 = v) (k : Wn X mt d n ls (.int v :: st) nc ns wx E) : Wn X mt d pc ls st nc ns wx E := by
  intro p l e R s m args below meth c D cA ta b0 H locs lsA cells slots Fin C hc hs hq hP hz hS hl hF
  obtain ⟨hd, rfl⟩ := hd
  exact lv_bipush C.1 C.2.1 hd hv (k p l e R s m args below meth c D cA ta b0 H locs lsA cells slots Fin C hc hs hq hP hz hS hl hF)
theorem n_sipush {z : Int} (v : Int32) (hd : Dc mt pc (.sipush z) 3 n) (hv : (Int16.ofInt z).toInt32 = v) (k : Wn X mt d n ls (.int v :: st) nc ns wx E) : Wn X mt d pc ls st nc ns wx E := by
  intro p l e R s m args below meth c D cA ta b0 H locs lsA cells slots Fin C hc hs hq hP hz hS hl hF
  obtain ⟨hd, rfl⟩ := hd
  exact lv_sipush C.1 C.2.1 hd hv (k p l e R s m args below meth c D cA ta b0 H locs lsA cells slots Fin C hc hs hq hP hz hS hl hF)
theorem n_dup {v : Value} (hd : Dc mt pc .dup 1 n) (hv : v.category = 1) (k : Wn X mt d n ls (v :: v :: st) nc ns wx E) : Wn X mt d pc ls (v :: st) nc ns wx E := by
  intro p l e R s m args below meth c D cA ta b0 H locs lsA cells slots Fin C hc hs hq hP hz hS hl hF
  obtain ⟨hd, rfl⟩ := hd
  exact lv_dup C.1 C.2.1 hd ((cv_cat b0 ta v).trans hv) (k p l e R s m args below meth c D cA ta b0 H locs lsA cells slots Fin C hc hs hq hP hz hS hl hF)
theorem n_aload_n (i : Nat) {j : Fin 4} {x : Nat} (hd : Dc mt pc (.aload_n j) 1 n) (hj : (j : Nat) = i) (hi : ls[i]? = some (.ref x)) (k : Wn X mt d n ls (.ref x :: st) nc ns wx E) : Wn X mt d pc ls st nc ns wx E := by
  intro p l e R s m args below meth c D cA ta b0 H locs lsA cells slots Fin C hc hs hq hP hz hS hl hF
  obtain ⟨hd, rfl⟩ := hd
  exact lv_aload_n C.1 C.2.1 hd hj (hl.2.2 _ _ hi (by simp)) (k p l e R s m args below meth c D cA ta b0 H locs lsA cells slots Fin C hc hs hq hP hz hS hl hF)
theorem n_iload_n (i : Nat) {j : Fin 4} {x : Int32} (hd : Dc mt pc (.iload_n j) 1 n) (hj : (j : Nat) = i) (hi : ls[i]? = some (.int x)) (k : Wn X mt d n ls (.int x :: st) nc ns wx E) : Wn X mt d pc ls st nc ns wx E := by
  intro p l e R s m args below meth c D cA ta b0 H locs lsA cells slots Fin C hc hs hq hP hz hS hl hF
  obtain ⟨hd, rfl⟩ := hd
  exact lv_iload_n C.1 C.2.1 hd hj (hl.2.2 _ _ hi (by simp)) (k p l e R s m args below meth c D cA ta b0 H locs lsA cells slots Fin C hc hs hq hP hz hS hl hF)
theorem n_istore_n (i : Nat) (ls1 : List Value) {j : Fin 4} {x : Int32} (hd : Dc mt pc (.istore_n j) 1 n) (hj : (j : Nat) = i) (hb : i < mt.2.2.1) (hs1 : st1 ls i (.int x) = ls1) (k : Wn X mt d n ls1 st nc ns wx E) : Wn X mt d pc ls (.int x :: st) nc ns wx E := by
  intro p l e R s m args below meth c D cA ta b0 H locs lsA cells slots Fin C hc hs hq hP hz hS hl hF
  obtain ⟨hd, rfl⟩ := hd
  subst hs1
  exact lv_istore_n C.1 C.2.1 hd hj hl.has hb rfl (fun lsA1 hl1 => k p l e R s m args below meth c D cA ta b0 H locs lsA1 cells slots Fin C hc hs hq hP hz hS (Lh.st1 (v := .int x) hl1) hF)
theorem n_astore_n (i : Nat) (ls1 : List Value) {j : Fin 4} {x : Nat} (hd : Dc mt pc (.astore_n j) 1 n) (hj : (j : Nat) = i) (hb : i < mt.2.2.1) (hs1 : st1 ls i (.ref x) = ls1) (k : Wn X mt d n ls1 st nc ns wx E) : Wn X mt d pc ls (.ref x :: st) nc ns wx E := by
  intro p l e R s m args below meth c D cA ta b0 H locs lsA cells slots Fin C hc hs hq hP hz hS hl hF
  obtain ⟨hd, rfl⟩ := hd
  subst hs1
  exact lv_astore_n C.1 C.2.1 hd hj hl.has hb rfl (fun lsA1 hl1 => k p l e R s m args below meth c D cA ta b0 H locs lsA1 cells slots Fin C hc hs hq hP hz hS (Lh.st1 (v := .ref x) hl1) hF)
theorem n_iinc (i : Nat) (ls1 : List Value) (w : Int32) {z : Int} {x : Int32} (hd : Dc mt pc (.iinc i z) 3 n) (hw : Int32.ofInt z = w) (hb : i < mt.2.2.1) (hi : ls[i]? = some (.int x)) (hs1 : st1 ls i (.int (x + w)) = ls1) (k : Wn X mt d n ls1 st nc ns wx E) : Wn X mt d pc ls st nc ns wx E := by
  intro p l e R s m args below meth c D cA ta b0 H locs lsA cells slots Fin C hc hs hq hP hz hS hl hF
  obtain ⟨hd, rfl⟩ := hd
  subst hs1
  obtain ⟨j, hj⟩ := List.getElem?_of_mem (lvl_mem (b0 := b0) (ta := ta) hi (by simp))
  exact lv_iinc C.1 C.2.1 hd hl.has (k := j) hj (by rw [hw]) hb rfl (fun lsA1 hl1 => k p l e R s m args below meth c D cA ta b0 H locs lsA1 cells slots Fin C hc hs hq hP hz hS (Lh.st1 (v := .int (x + w)) hl1) hF)
theorem n_icmp_ge {x y : Int32} {tgt : Nat} (hd : Dj mt pc (.if_icmp .ge) n tgt) (kt : y ≤ x → Wn X mt d tgt ls st nc ns wx E) (kf : ¬ y ≤ x → Wn X mt d n ls st nc ns wx E) : Wn X mt d pc ls (.int y :: .int x :: st) nc ns wx E := by
  intro p l e R s m args below meth c D cA ta b0 H locs lsA cells slots Fin C hc hs hq hP hz hS hl hF
  obtain ⟨off, hd, rfl, ht⟩ := hd
  exact lv_icmp_ge C.1 C.2.1 hd ht (fun h => kt h p l e R s m args below meth c D cA ta b0 H locs lsA cells slots Fin C hc hs hq hP hz hS hl hF) (fun h => kf h p l e R s m args below meth c D cA ta b0 H locs lsA cells slots Fin C hc hs hq hP hz hS hl hF)
theorem n_goto {tgt : Nat} (hd : Dj mt pc .goto n tgt) (k : Wn X mt d tgt ls st nc ns wx E) : Wn X mt d pc ls st nc ns wx E := by
  intro p l e R s m args below meth c D cA ta b0 H locs lsA cells slots Fin C hc hs hq hP hz hS hl hF
  obtain ⟨off, hd, rfl, ht⟩ := hd
  exact lv_goto C.1 C.2.1 hd ht (k p l e R s m args below meth c D cA ta b0 H locs lsA cells slots Fin C hc hs hq hP hz hS hl hF)
theorem n_obj {idx c0 : Nat} (hf : Cond.methodLink mt.1.cls idx Lib.objectInit ∈ gtb) (hd : Dc mt pc (.invokespecial idx) 3 n) (hdd : 1 ≤ d) (k : Wn X mt d n ls [] nc ns wx E) : Wn X mt d pc ls [.ref c0] nc ns wx E := by
  intro p l e R s m args below meth c D cA ta b0 H locs lsA cells slots Fin C hc hs hq hP hz hS hl hF
  obtain ⟨hd, rfl⟩ := hd
  have h7 := C.2.2.2.2.2.2.1
  have h8 := C.2.2.2.2.2.2.2.1
  exact W.objInit C.1 C.2.1 C.2.2.2.1 (C.2.2.2.2.1 _ hf) (C.2.2.2.2.1 _ (gi 26 rfl rfl)) (C.2.2.2.2.1 _ (gi 27 rfl rfl)) rfl (by rw [C.2.2.1]; exact hl.1) rfl hd (by omega) (by show 2 * 0 + 0 + 12 ≤ R.locals; omega) (k p l e R s m args below meth c D cA ta b0 H locs lsA cells slots Fin C hc hs hq hP hz hS hl hF)
theorem wn_step {D : va_G} {cA : Nat → ClassId} {ta : Nat → Nat} {b0 : Nat} {H H1 : Heap} {a : AE} (hP : va_P D kl (wm b0 cA ta wx) H) (hz : H.size = b0 + wx.length) (o1 : ∀ q, q < b0 + wx.length → H1[q]? = H[q]?) (ha : va_at D kl (b0 + wx.length, ce b0 cA ta a) H1) : va_P D kl (wm b0 cA ta (wx ++ [a])) H1 := by
  rw [← wm_push]
  refine (hP.kept (fun k x hx => o1 x.1 (by rw [← hz]; exact (hP k x hx).lt))).app (fun k x hx => ?_)
  have hz : k < 1 := (List.getElem?_eq_some_iff.mp hx).1
  rw [show k = 0 by omega] at hx
  cases hx
  exact ha
theorem n_new {idx ci N nc' ns' : Nat} {C0 : String} {T : u_T} {t0 : Nat → FieldType} (fs : List Value) (hk : kl[ci]? = some (C0, T, N)) (huw : ∀ w ∈ u_ws C0 T N, w ∈ gtb) (hty : ∀ k, k < N → parseFieldDescriptor (T k).2.2.1 = some (t0 k)) (hcl : Cond.classLink mt.1.cls idx C0 ∈ gtb) (hin : Cond.instantiable C0 N ∈ gtb) (hini : Cond.initialized C0 ∈ gtb) (hfs : ∀ (b0 : Nat) (ta : Nat → Nat) (j : Nat), j < N → defaultValue (t0 j) = vp_V (fs.map (cv b0 ta)) j) (h1 : nc' + 1 ≤ nc) (h2 : ns' + N ≤ ns) (hlt : wx.length < 1000) (hd : Dc mt pc (.new idx) 3 n) (k : Wn X mt d n ls (.ref wx.length :: st) nc' ns' (wx ++ [.inl (ci, fs)]) E) : Wn X mt d pc ls st nc ns wx E := by
  intro p l e R s m args below meth c D cA ta b0 H locs lsA cells slots Fin C hc hs hq hP hz hS hl hF
  obtain ⟨hd, rfl⟩ := hd
  have hKn := C.2.2.2.2.2.1.1.1.1 ci _ hk
  refine W.newcK C.1 C.2.1 C.2.2.2.1 (C.2.2.2.2.1 _ hcl) (C.2.2.2.2.1 _ hin) (C.2.2.2.2.1 _ hini) rfl hd (by omega) (by omega) hKn.2.1 hz fun H1 kC hkC e1 z1 o1 => ?_
  have hP1 := wn_step (a := .inl (ci, fs)) hP hz o1 ⟨_, hk, (u_born t0 C.2.2.2.2.1 huw hKn hkC e1 hty).to (hfs b0 ta)⟩
  have := k p l e R s m args below meth c D cA ta b0 H1 locs lsA (cells + 1) (slots + N) Fin C (by omega) (by omega) (by rw [List.length_append, List.length_singleton]; omega) hP1 (by rw [z1, List.length_append, List.length_singleton]; omega) ⟨Nat.le_trans hS.1 (by omega), fun x h1 h2 => (o1 x (by rw [← hz]; exact Nat.lt_of_lt_of_le h1 hS.1)).trans (hS.2.1 x h1 h2), hS.2.2⟩ hl (fun pc' ls' st' wx' H' locs' lsA' cells' slots' q1 q2 q3 q4 q5 q6 q7 q8 => hF pc' ls' st' wx' H' locs' lsA' cells' slots' q1 q2 q3 q4 q5 (by omega) (by omega) q8)
  rw [List.map_cons, cv_ref hlt] at this
  exact this
theorem n_newi {N nc' ns' : Nat} {v : Int32} (h0 : ¬ v < 0) (hv : v.toNatClampNeg = N) (hN : N ≤ 1000) (h1 : nc' + 1 ≤ nc) (h2 : ns' + N ≤ ns) (hlt : wx.length < 1000) (hd : Dc mt pc (.newarray .int) 2 n) (k : Wn X mt d n ls (.ref wx.length :: st) nc' ns' (wx ++ [.inr (0, N, .inl (fun _ => 0))]) E) : Wn X mt d pc ls (.int v :: st) nc ns wx E := by
  intro p l e R s m args below meth c D cA ta b0 H locs lsA cells slots Fin C hc hs hq hP hz hS hl hF
  obtain ⟨hd, rfl⟩ := hd
  refine va_newaK C.1 C.2.1 (C.2.2.2.2.1 _ (gi 60 rfl rfl)) rfl hd rfl h0 hv (by show N * 4 ≤ _; omega) (by omega) (by omega) hz fun H1 cA' e1 z1 o1 hAr hNm => ?_
  have hT := (C.2.2.2.2.2.1.1.1.2 0 _ (show (tyl cA)[0]? = some (cA 0, .int) from rfl)).2
  obtain rfl : cA' = cA 0 := Option.some.inj (hNm.symm.trans hT)
  have hP1 := wn_step (a := .inr (0, N, .inl (fun _ => 0))) hP hz o1 (show H1[b0 + wx.length]? = some (vp_cell (cA 0) (N, .inl (fun _ => 0))) by rw [vp_cell_i]; exact e1)
  have := k p l e R s m args below meth c D cA ta b0 H1 locs lsA (cells + 1) (slots + N) Fin C (by omega) (by omega) (by rw [List.length_append, List.length_singleton]; omega) hP1 (by rw [z1, List.length_append, List.length_singleton]; omega) ⟨Nat.le_trans hS.1 (by omega), fun x h1 h2 => (o1 x (by rw [← hz]; exact Nat.lt_of_lt_of_le h1 hS.1)).trans (hS.2.1 x h1 h2), hS.2.2⟩ hl (fun pc' ls' st' wx' H' locs' lsA' cells' slots' q1 q2 q3 q4 q5 q6 q7 q8 => hF pc' ls' st' wx' H' locs' lsA' cells' slots' q1 q2 q3 q4 q5 (by omega) (by omega) q8)
  rw [List.map_cons, cv_ref hlt] at this
  exact this
theorem n_newb {N nc' ns' : Nat} {v : Int32} (h0 : ¬ v < 0) (hv : v.toNatClampNeg = N) (hN : N ≤ 1000) (h1 : nc' + 1 ≤ nc) (h2 : ns' + N ≤ ns) (hlt : wx.length < 1000) (hd : Dc mt pc (.newarray .byte) 2 n) (k : Wn X mt d n ls (.ref wx.length :: st) nc' ns' (wx ++ [.inr (1, N, .inl (fun _ => 0))]) E) : Wn X mt d pc ls (.int v :: st) nc ns wx E := by
  intro p l e R s m args below meth c D cA ta b0 H locs lsA cells slots Fin C hc hs hq hP hz hS hl hF
  obtain ⟨hd, rfl⟩ := hd
  refine va_newaK C.1 C.2.1 (C.2.2.2.2.1 _ (gi 133 rfl rfl)) rfl hd rfl h0 hv (by show N * 1 ≤ _; omega) (by omega) (by omega) hz fun H1 cA' e1 z1 o1 hAr hNm => ?_
  have hT := (C.2.2.2.2.2.1.1.1.2 1 _ (show (tyl cA)[1]? = some (cA 1, .byte) from rfl)).2
  obtain rfl : cA' = cA 1 := Option.some.inj (hNm.symm.trans hT)
  have hP1 := wn_step (a := .inr (1, N, .inl (fun _ => 0))) hP hz o1 (show H1[b0 + wx.length]? = some (vp_cell (cA 1) (N, .inl (fun _ => 0))) by rw [vp_cell_i]; exact e1)
  have := k p l e R s m args below meth c D cA ta b0 H1 locs lsA (cells + 1) (slots + N) Fin C (by omega) (by omega) (by rw [List.length_append, List.length_singleton]; omega) hP1 (by rw [z1, List.length_append, List.length_singleton]; omega) ⟨Nat.le_trans hS.1 (by omega), fun x h1 h2 => (o1 x (by rw [← hz]; exact Nat.lt_of_lt_of_le h1 hS.1)).trans (hS.2.1 x h1 h2), hS.2.2⟩ hl (fun pc' ls' st' wx' H' locs' lsA' cells' slots' q1 q2 q3 q4 q5 q6 q7 q8 => hF pc' ls' st' wx' H' locs' lsA' cells' slots' q1 q2 q3 q4 q5 (by omega) (by omega) q8)
  rw [List.map_cons, cv_ref hlt] at this
  exact this
theorem n_newl {N nc' ns' : Nat} {v : Int32} (h0 : ¬ v < 0) (hv : v.toNatClampNeg = N) (hN : N ≤ 1000) (h1 : nc' + 1 ≤ nc) (h2 : ns' + N ≤ ns) (hlt : wx.length < 1000) (hd : Dc mt pc (.newarray .long) 2 n) (k : Wn X mt d n ls (.ref wx.length :: st) nc' ns' (wx ++ [.inr (2, N, .inr (.inl (fun _ => 0)))]) E) : Wn X mt d pc ls (.int v :: st) nc ns wx E := by
  intro p l e R s m args below meth c D cA ta b0 H locs lsA cells slots Fin C hc hs hq hP hz hS hl hF
  obtain ⟨hd, rfl⟩ := hd
  refine va_newaK C.1 C.2.1 (C.2.2.2.2.1 _ (gi 257 rfl rfl)) rfl hd rfl h0 hv (by show N * 8 ≤ _; omega) (by omega) (by omega) hz fun H1 cA' e1 z1 o1 hAr hNm => ?_
  have hT := (C.2.2.2.2.2.1.1.1.2 2 _ (show (tyl cA)[2]? = some (cA 2, .long) from rfl)).2
  obtain rfl : cA' = cA 2 := Option.some.inj (hNm.symm.trans hT)
  have hP1 := wn_step (a := .inr (2, N, .inr (.inl (fun _ => 0)))) hP hz o1 (show H1[b0 + wx.length]? = some (vp_cell (cA 2) (N, .inr (.inl (fun _ => 0)))) by exact e1)
  have := k p l e R s m args below meth c D cA ta b0 H1 locs lsA (cells + 1) (slots + N) Fin C (by omega) (by omega) (by rw [List.length_append, List.length_singleton]; omega) hP1 (by rw [z1, List.length_append, List.length_singleton]; omega) ⟨Nat.le_trans hS.1 (by omega), fun x h1 h2 => (o1 x (by rw [← hz]; exact Nat.lt_of_lt_of_le h1 hS.1)).trans (hS.2.1 x h1 h2), hS.2.2⟩ hl (fun pc' ls' st' wx' H' locs' lsA' cells' slots' q1 q2 q3 q4 q5 q6 q7 q8 => hF pc' ls' st' wx' H' locs' lsA' cells' slots' q1 q2 q3 q4 q5 (by omega) (by omega) q8)
  rw [List.map_cons, cv_ref hlt] at this
  exact this
theorem n_newq {idx t N nc' ns' : Nat} {C0 : String} {v : Int32} (ht : ∀ cA : Nat → ClassId, (tyl cA)[t]? = some (cA t, .object C0)) (hao : ∀ (X : Nat × (Nat → Int32)) (D : va_G) (cA : Nat → ClassId) (ta : Nat → Nat) (b0 : Nat) (U : State), Kn X D cA ta b0 U → va_AO C0 U) (hcl : Cond.classLink mt.1.cls idx C0 ∈ gtb) (h0 : ¬ v < 0) (hv : v.toNatClampNeg = N) (hN : N ≤ 1000) (h1 : nc' + 1 ≤ nc) (h2 : ns' + N ≤ ns) (hlt : wx.length < 1000) (hd : Dc mt pc (.anewarray idx) 3 n) (k : Wn X mt d n ls (.ref wx.length :: st) nc' ns' (wx ++ [.inr (t, N, .inr (.inr (fun _ => none)))]) E) : Wn X mt d pc ls (.int v :: st) nc ns wx E := by
  intro p l e R s m args below meth c D cA ta b0 H locs lsA cells slots Fin C hc hs hq hP hz hS hl hF
  obtain ⟨hd, rfl⟩ := hd
  subst hv
  refine W.anew C.1 C.2.1 C.2.2.2.1 (C.2.2.2.2.1 _ hcl) (va_AO.use (hao X D cA ta b0 s C.2.2.2.2.2.1)) rfl hd rfl h0 (by omega) (by omega) (by omega) fun cA' kA comp f1 f2 f3 f4 => ?_
  obtain ⟨kA', comp', g1, g2, g3, g4⟩ : va_RA s (cA t) (.object C0) := (C.2.2.2.2.2.1.1.1.2 t _ (ht cA)).2
  obtain rfl : cA' = cA t := Option.some.inj (f1.symm.trans g4)
  generalize hH1 : H.push ({ cls := cA t, slots := Array.replicate v.toNatClampNeg .null, vm := .none } : Cell) = H1
  have z1 : H1.size = H.size + 1 := by rw [← hH1, Array.size_push]
  have e1 : H1[b0 + wx.length]? = some (arrV (cA t) v.toNatClampNeg (fun _ => .null)) := by rw [← hz, ← hH1, Array.getElem?_push_size, ← arrV_new]
  have o1 : ∀ q : Nat, q < b0 + wx.length → H1[q]? = H[q]? := fun q hq => by rw [← hH1, Array.getElem?_push, if_neg (by omega)]
  have hP1 := wn_step (a := .inr (t, v.toNatClampNeg, .inr (.inr (fun _ => none)))) hP hz o1 (show H1[b0 + wx.length]? = some (vp_cell (cA t) (v.toNatClampNeg, .inr (.inr (.inr (.inr (fun _ => none)))))) by rw [vp_cell_q]; exact e1)
  have := k p l e R s m args below meth c D cA ta b0 H1 locs lsA (cells + 1) (slots + v.toNatClampNeg) Fin C (by omega) (by omega) (by rw [List.length_append, List.length_singleton]; omega) hP1 (by rw [z1, List.length_append, List.length_singleton]; omega) ⟨Nat.le_trans hS.1 (by omega), fun x h1 h2 => (o1 x (by rw [← hz]; exact Nat.lt_of_lt_of_le h1 hS.1)).trans (hS.2.1 x h1 h2), hS.2.2⟩ hl (fun pc' ls' st' wx' H' locs' lsA' cells' slots' q1 q2 q3 q4 q5 q6 q7 q8 => hF pc' ls' st' wx' H' locs' lsA' cells' slots' q1 q2 q3 q4 q5 (by omega) (by omega) q8)
  rw [List.map_cons, cv_ref hlt, ← hz] at this
  exact this
theorem n_fin {p : Program} {l : Launch} {e : Env} {R : Room} {s : State} {m : MethodId} {args : Array Value} {below : List Frame} {meth : Method} {c : Code} {D : va_G} {cA : Nat → ClassId} {ta : Nat → Nat} {b0 : Nat} {H1 : Heap} {locs1 : List Loc} {cells slots c0 : Nat} {Fin : State → Prop} {g : JFrame} {wx' : List AE} (hq : s.heap.size + cells = b0 + wx.length) (hlen : wx'.length = wx.length) (hne : c0 < wx.length) (hP1 : va_P D kl (wm b0 cA ta wx') H1) (k : H1.size = b0 + wx'.length → W p l e R s m args below meth c H1 locs1 cells slots Fin g) : W p l e R s m args below meth c H1 locs1 cells slots Fin g := by
  intro T hT Y
  refine k ?_ T hT Y
  have h1 : H1.size ≤ s.heap.size + cells := by rw [← hT]; exact Y.same.2.2.1
  have h2 := (hP1 (wx'.length - 1) _ (wm_get (List.getElem?_eq_getElem (show wx'.length - 1 < wx'.length by omega)))).lt
  have h3 : b0 + (wx'.length - 1) < H1.size := h2
  omega
/-- a field that a constructor may set -/
def FPn (own : String) (idx ci j : Nat) (ty : FieldType) : Prop := ∃ (C : String) (T : u_T) (N : Nat) (t0 : Nat → FieldType), kl[ci]? = some (C, T, N) ∧ j < N ∧ Cond.fieldLink own idx (T j).1 (T j).2.1 (T j).2.2.1 ∈ gtb ∧ (∀ w ∈ u_ws C T N, w ∈ gtb) ∧ (∀ k, k < N → parseFieldDescriptor (T k).2.2.1 = some (t0 k)) ∧ (∀ a, a < N → ∀ b, b < N → a ≠ b → (T a).2.1 ≠ (T b).2.1) ∧ ((T j).2.2.2 = false ∨ ((T j).2.2.2 = true ∧ (T j).1 = own)) ∧ parseFieldDescriptor (T j).2.2.1 = some ty
theorem n_put {idx ci j c0 : Nat} {fs : List Value} {v : Value} (ty : FieldType) (hf : FPn mt.1.cls idx ci j ty) (hi : mt.1.name = "<init>") (hg : wx[c0]? = some (.inl (ci, fs))) (hj : j < fs.length) (hn : ∀ (b0 : Nat) (ta : Nat → Nat), narrow ty (cv b0 ta v) = cv b0 ta v) (hft : ∀ (b0 : Nat) (ta : Nat → Nat), fits ty (cv b0 ta v) = true) (hc0 : c0 < 1000) (hd : Dc mt pc (.putfield idx) 3 n) (k : Wn X mt d n ls st nc ns (wx.set c0 (.inl (ci, fs.set j v))) E) : Wn X mt d pc ls (v :: .ref c0 :: st) nc ns wx E := by
  intro p l e R s m args below meth c D cA ta b0 H locs lsA cells slots Fin C hc hs hq hP hz hS hl hF
  obtain ⟨hd, rfl⟩ := hd
  obtain ⟨C9, T, N, t0, h1, h2, h3, h4, h5, h6, h7, h8⟩ := hf
  rw [List.map_cons, List.map_cons, cv_ref hc0]
  have hg' : (wm b0 cA ta wx)[c0]? = some (b0 + c0, .inr (ci, fs.map (cv b0 ta))) := wm_get hg
  have fin : ∀ (H1 : Heap) (locs1 : List Loc), va_P D kl ((wm b0 cA ta wx).set c0 (b0 + c0, .inr (ci, (fs.map (cv b0 ta)).set j (cv b0 ta v)))) H1 → va_S (Ab b0) s.heap H1 locs1 → W p l e R s m args below meth c H1 locs1 cells slots Fin (F0 m (pc + 3) lsA (st.map (cv b0 ta))) := fun H1 locs1 hP1 hS1 => by
    rw [← List.map_set] at hP1
    have hP2 : va_P D kl (wm b0 cA ta (wx.set c0 (.inl (ci, fs.set j v)))) H1 := by rw [← wm_set]; exact hP1
    refine n_fin hq (List.length_set) (List.getElem?_eq_some_iff.mp hg).1 hP2 (fun hz1 => ?_)
    exact k p l e R s m args below meth c D cA ta b0 H1 locs1 lsA cells slots Fin C hc hs (by rw [List.length_set]; exact hq) hP2 hz1 hS1 hl hF
  rcases h7 with h7 | ⟨h7, h9⟩
  · exact va_put C.1 C.2.1 C.2.2.2.2.1 h4 t0 h5 h6 C.2.2.2.1 C.2.2.2.2.2.1.1.1 hP wm_D hS c0 hg' h1 j h2 (C.2.2.2.2.1 _ h3) (fun _ h => h) h7 h8 (hn b0 ta) (hft b0 ta) (by rw [List.length_map]; exact hj) hd (fun H1 locs1 hP1 _ hS1 => fin H1 locs1 hP1 hS1)
  · exact va_putF C.1 C.2.1 C.2.2.2.2.1 h4 t0 h5 h6 C.2.2.2.1 C.2.2.2.2.2.1.1.1 hP wm_D hS c0 hg' h1 j h2 (C.2.2.2.2.1 _ h3) (fun _ h => h) h7 (C.2.2.2.2.2.2.2.2 hi) h9 h8 (hn b0 ta) (hft b0 ta) (by rw [List.length_map]; exact hj) hd (fun H1 locs1 hP1 _ hS1 => fin H1 locs1 hP1 hS1)
theorem n_getR {idx ci j c0 r : Nat} {fs : List Value} (hf : FL mt.1.cls idx ci j) (hg : wx[c0]? = some (.inl (ci, fs))) (hj : fs[j]? = some (.ref r)) (hc0 : c0 < 1000) (hr : r < 1000) (hd : Dc mt pc (.getfield idx) 3 n) (k : Wn X mt d n ls (.ref r :: st) nc ns wx E) : Wn X mt d pc ls (.ref c0 :: st) nc ns wx E := by
  intro p l e R s m args below meth c D cA ta b0 H locs lsA cells slots Fin C hc hs hq hP hz hS hl hF
  obtain ⟨hd, rfl⟩ := hd
  obtain ⟨C9, T, N, h1, h2, h3, h4⟩ := hf
  have k1 := k p l e R s m args below meth c D cA ta b0 H locs lsA cells slots Fin C hc hs hq hP hz hS hl hF
  rw [List.map_cons, cv_ref hr] at k1
  rw [List.map_cons, cv_ref hc0]
  have hg' : (wm b0 cA ta wx)[c0]? = some (b0 + c0, .inr (ci, fs.map (cv b0 ta))) := wm_get hg
  exact va_get C.1 C.2.1 C.2.2.2.2.1 h4 C.2.2.2.1 C.2.2.2.2.2.1.1.1 hP c0 hg' h1 j h2 (C.2.2.2.2.1 _ h3) (fun _ h => h) (by rw [List.getElem?_map, hj, Option.map_some, cv_ref hr]) hd k1
theorem n_iast {c0 N : Nat} {f : Nat → Int32} {i v : Int32} (hg : wx[c0]? = some (.inr (0, N, .inl f))) (hi : vp_in i N) (hc0 : c0 < 1000) (hd : Dc mt pc .iastore 1 n) (k : Wn X mt d n ls st nc ns (wx.set c0 (.inr (0, N, .inl (upd f i.toNatClampNeg v)))) E) : Wn X mt d pc ls (.int v :: .int i :: .ref c0 :: st) nc ns wx E := by
  intro p l e R s m args below meth c D cA ta b0 H locs lsA cells slots Fin C hc hs hq hP hz hS hl hF
  obtain ⟨hd, rfl⟩ := hd
  rw [List.map_cons, List.map_cons, List.map_cons, cv_ref hc0]
  have hg' : (wm b0 cA ta wx)[c0]? = some (b0 + c0, .inl (cA 0, N, .inl f)) := wm_get hg
  refine va_iast C.1 C.2.1 C.2.2.2.2.2.1.1.1 hP wm_D hS c0 0 hg' (show (tyl cA)[0]? = some (cA 0, .int) from rfl) hi hd (fun H1 locs1 hP1 _ hS1 => ?_)
  have hP2 : va_P D kl (wm b0 cA ta (wx.set c0 (.inr (0, N, .inl (upd f i.toNatClampNeg v))))) H1 := by rw [← wm_set]; exact hP1
  refine n_fin hq (List.length_set) (List.getElem?_eq_some_iff.mp hg).1 hP2 (fun hz1 => ?_)
  exact k p l e R s m args below meth c D cA ta b0 H1 locs1 lsA cells slots Fin C hc hs (by rw [List.length_set]; exact hq) hP2 hz1 hS1 hl hF
/-- a row of references with one set -/
def upq (h : Nat → Option Nat) (i : Nat) (v : Nat) : Nat → Option Nat := fun j => if j = i then some v else h j
theorem n_aast {c0 t N ci c1 : Nat} {h : Nat → Option Nat} {i : Int32} {r : vw_C} {vs : List Value} (hg : wx[c0]? = some (.inr (t, N, .inr (.inr h)))) (ht : ∀ cA : Nat → ClassId, (tyl cA)[t]? = some (cA t, .object r.1)) (hv : wx[c1]? = some (.inl (ci, vs))) (hk : kl[ci]? = some r) (hi : vp_in i N) (hc0 : c0 < 1000) (hc1 : c1 < 1000) (hd : Dc mt pc .aastore 1 n) (k : Wn X mt d n ls st nc ns (wx.set c0 (.inr (t, N, .inr (.inr (upq h i.toNatClampNeg c1))))) E) : Wn X mt d pc ls (.ref c1 :: .int i :: .ref c0 :: st) nc ns wx E := by
  intro p l e R s m args below meth c D cA ta b0 H locs lsA cells slots Fin C hc hs hq hP hz hS hl hF
  obtain ⟨hd, rfl⟩ := hd
  rw [List.map_cons, List.map_cons, List.map_cons, cv_ref hc0, cv_ref hc1]
  have hg' : (wm b0 cA ta wx)[c0]? = some (b0 + c0, .inl (cA t, N, .inr (.inr (.inr (.inr (fun j => (h j).map (fun r => b0 + r))))))) := wm_get hg
  have hv' : (wm b0 cA ta wx)[c1]? = some (b0 + c1, .inr (ci, vs.map (cv b0 ta))) := wm_get hv
  refine va_astq C.1 C.2.1 C.2.2.2.2.2.1.1.1 hP wm_D hS c0 t c1 ci hg' (ht cA) hv' hk hi hd (fun H1 locs1 hP1 _ hS1 => ?_)
  have hP2 : va_P D kl (wm b0 cA ta (wx.set c0 (.inr (t, N, .inr (.inr (upq h i.toNatClampNeg c1)))))) H1 := by
    rw [← wm_set]
    have e9 : va_up (fun j => (h j).map (fun r => b0 + r)) i.toNatClampNeg (some (b0 + c1)) = fun j => (upq h i.toNatClampNeg c1 j).map (fun r => b0 + r) := by
      funext j
      unfold va_up upq
      by_cases e : j = i.toNatClampNeg
      · rw [if_pos e, if_pos e]; rfl
      · rw [if_neg e, if_neg e]
    rw [e9] at hP1
    exact hP1
  refine n_fin hq (List.length_set) (List.getElem?_eq_some_iff.mp hg).1 hP2 (fun hz1 => ?_)
  exact k p l e R s m args below meth c D cA ta b0 H1 locs1 lsA cells slots Fin C hc hs (by rw [List.length_set]; exact hq) hP2 hz1 hS1 hl hF
end NRules
