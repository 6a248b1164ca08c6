def nwm : List (String × Nat × MethodName × String) := [("SevenEights$School", 33, ⟨"SevenEights$Lesson", "<init>", "()V"⟩, "SevenEights"), ("SevenEights$School", 38, ⟨"SevenEights$Learner", "<init>", "()V"⟩, "SevenEights"), ("SevenEights", 25, ⟨"SevenEights$Text", "<init>", "()V"⟩, "SevenEights"), ("SevenEights", 32, ⟨"SevenEights$Lesson", "<init>", "()V"⟩, "SevenEights"), ("SevenEights", 39, ⟨"SevenEights$Learner", "<init>", "()V"⟩, "SevenEights"), ("SevenEights", 46, ⟨"SevenEights$Answer", "<init>", "()V"⟩, "SevenEights"), ("SevenEights", 53, ⟨"SevenEights$Plan", "<init>", "()V"⟩, "SevenEights"), ("SevenEights", 64, ⟨"SevenEights$Rows", "<init>", "()V"⟩, "SevenEights"), ("SevenEights", 86, ⟨"SevenEights$Doer", "<init>", "()V"⟩, "SevenEights"), ("SevenEights", 91, ⟨"SevenEights$Sheet", "<init>", "()V"⟩, "SevenEights"), ("SevenEights", 92, ⟨"SevenEights$Shelf", "<init>", "()V"⟩, "SevenEights"), ("SevenEights$Text", 71, ⟨"SevenEights", "pairAt", "(II)I"⟩, "SevenEights"), ("SevenEights$Learner", 28, ⟨"SevenEights", "firmAtFirst", "(I)I"⟩, "SevenEights"), ("SevenEights$Answer", 30, ⟨"SevenEights", "product", "(I)I"⟩, "SevenEights"), ("SevenEights$Answer", 60, ⟨"SevenEights", "nextDoor", "(II)I"⟩, "SevenEights"), ("SevenEights$Learner", 53, ⟨"SevenEights", "firmWhenTold", "(I)I"⟩, "SevenEights"), ("SevenEights$Learner", 68, ⟨"SevenEights", "firmBehindNights", "(IIII)I"⟩, "SevenEights"), ("SevenEights$Plan", 36, ⟨"SevenEights", "firmWhenTold", "(I)I"⟩, "SevenEights"), ("SevenEights$Plan", 40, ⟨"SevenEights", "firmBehindNights", "(IIII)I"⟩, "SevenEights"), ("SevenEights$Rows", 19, ⟨"SevenEights", "isWithin", "(II)Z"⟩, "SevenEights")]
def nwf : List (String × Nat × String × String × String × String) := [("SevenEights$Doer", 32, "SevenEights", "SAYS_BODY", "[I", "SevenEights"), ("SevenEights$Doer", 35, "SevenEights", "LEARNS_BODY", "[I", "SevenEights"), ("SevenEights$Doer", 38, "SevenEights", "SHARES_BODY", "[I", "SevenEights"), ("SevenEights$Doer", 41, "SevenEights", "TELLS_BODY", "[I", "SevenEights")]
def stn (k : Nat) : String := (["LESSER", "GREATER", "LAW_MOST", "UNDER", "SAYS_BODY", "LEARNS_BODY", "SHARES_BODY", "TELLS_BODY"] : List String).getD k ""
def sta (k : Nat) : List Int32 := ([[2, 2, 2, 2, 2, 2, 2, 2, 3, 3, 3, 3, 3, 3, 3, 4, 4, 4, 4, 4, 4, 5, 5, 5, 5, 5, 6, 6, 6, 6, 7, 7, 7, 8, 8, 9], [2, 3, 4, 5, 6, 7, 8, 9, 3, 4, 5, 6, 7, 8, 9, 4, 5, 6, 7, 8, 9, 5, 6, 7, 8, 9, 6, 7, 8, 9, 7, 8, 9, 8, 9, 9], [50, 100, 100], [-9, 0, 0, 2, 1, 0], [10, 10, 30, 40, 51, 10], [11, 20, 11, 41, 20, 11], [12, 12, 12, 12, 50, 61], [13, 13, 31, 31, 13, 60]] : List (List Int32)).getD k []
def ssx (k : Nat) : String × Nat := ([("ask", 34), ("in", 57), ("tell", 43), ("rest", 48)] : List (String × Nat)).getD k ("", 0)
def ssl : List Nat := [3, 2, 4, 4]
def ssb : List (List Int32) := [[97, 115, 107], [105, 110], [116, 101, 108, 108], [114, 101, 115, 116]]
/-- the words of the tables that last -/
def gtb : List Cond := lw_tbl.filter goodWord
theorem gtb_good : GoodIn gtb gtb := fun _ h => ⟨h, good_of_word (List.mem_filter.mp h).2⟩
theorem gi {w : Cond} (i : Nat) (h : tables_1[i]? = some w) (g : goodWord w = true) : w ∈ gtb := List.mem_filter.mpr ⟨List.mem_append_right _ (List.mem_of_getElem? h), g⟩
theorem gs {q : MethodName × Nat} (i : Nat) (h : lw_privs[i]? = some q) (g : goodWord (Cond.selects q.1.cls q.1 q.1) = true) : Cond.selects q.1.cls q.1 q.1 ∈ gtb := List.mem_filter.mpr ⟨List.mem_append_left _ (List.mem_map.mpr ⟨q, List.mem_of_getElem? h, rfl⟩), g⟩
def wsm (mt : MT) : List Cond := .code mt.1 mt.2.1 mt.2.2.1 mt.2.2.2 :: gtb
def rmD (d : Nat) : Room := { frames := d, cells := 0, slots := 0, locals := 64 * d }
abbrev flr : Value := .retAddr 0
/-- abstract references: below 1000 a cell; above: what was there before -/
def cv (b0 : Nat) (ta : Nat → Nat) (v : Value) : Value := match v with
  | .ref n => .ref (if n < 1000 then b0 + n else ta n)
  | v => v
theorem cv_cat (b0 : Nat) (ta : Nat → Nat) (v : Value) : (cv b0 ta v).category = v.category := by cases v <;> rfl
theorem cv_cats (b0 : Nat) (ta : Nat → Nat) (st : List Value) : ((st.map (cv b0 ta)).map fun v => v.category).sum = (st.map fun v => v.category).sum := by
  rw [List.map_map]
  congr 1
  apply List.map_congr_left
  intro v _
  exact cv_cat b0 ta v
def tyl (cA : Nat → ClassId) : List (ClassId × FieldType) := [(cA 0, .int), (cA 1, .byte), (cA 2, .long), (cA 3, .object R_Learner), (cA 4, .object R_Sheet), (cA 5, .object R_Shelf)]
def Kx (X : Nat × (Nat → Int32)) (D : va_G) (cA : Nat → ClassId) (ta : Nat → Nat) (b0 : Nat) (U : State) : Prop :=
  va_K D kl (tyl cA) U ∧ (∀ q ∈ nwm, va_Nw (.methodLinkNest q.1 q.2.1 q.2.2.1 q.2.2.2) U) ∧ (∀ q ∈ nwf, va_Nw (.fieldLinkNest q.1 q.2.1 q.2.2.1 q.2.2.2.1 q.2.2.2.2.1 q.2.2.2.2.2) U) ∧
  (∀ k, k < 8 → va_Z "SevenEights" (stn k) "[I" (.ref (ta (1000 + k))) (Ab b0) U U.heap ∧ va_T .int (ta (1000 + k)) (sta k).length (fun j => .int ((sta k).getD j 0)) (Ab b0) U U.heap) ∧
  (∀ k, k < 4 → vk_R "SevenEights$Text" (ssx k).2 (ssx k).1 (ta (2000 + k)) U) ∧ vk_S 4 ssl ssb (fun i => ta (2000 + i)) (fun i => ta (2100 + i)) (Ab b0) U U.heap ∧
  (va_Z "java/lang/String" "COMPACT_STRINGS" "Z" (.int 1) (Ab b0) U U.heap ∧ (va_Z "jdk/internal/util/Preconditions" "SIOOBE_FORMATTER" "Ljava/util/function/BiFunction;" .null (Ab b0) U U.heap ∨ va_Z "jdk/internal/util/Preconditions" "SIOOBE_FORMATTER" "Ljava/util/function/BiFunction;" (.ref (ta 3001)) (Ab b0) U U.heap)) ∧ va_X (ta 3000) X.1 X.2 U U.heap ∧ ta 3000 < U.heap.size ∧ ta 3000 < b0
theorem Kx.move {X : Nat × (Nat → Int32)} {D : va_G} {cA : Nat → ClassId} {ta : Nat → Nat} {b0 : Nat} {s U : State} {H : Heap} {locs : List Loc} (h : Kx X D cA ta b0 s) (hS : va_S (Ab b0) s.heap H locs) (hU : U.heap = H) (hW : s.WarmedH U.vm) : Kx X D cA ta b0 U := by
  obtain ⟨h1, h2, h3, h4, h5, h6, h7, h8, h9, h10⟩ := h
  subst hU
  have al := hW.alike
  refine ⟨va_K.moved al h1, fun q hq => va_Nw.warmM hW (h2 q hq), fun q hq => va_Nw.warmF hW (h3 q hq), fun k hk => ⟨((h4 k hk).1.kept hS.2.1).moved al, ((h4 k hk).2.kept hS.2.1).moved al⟩, fun k hk => (h5 k hk).warm hW, (h6.kept hS.2.1).moved al, ⟨(h7.1.kept hS.2.1).moved al, h7.2.imp (fun z => (z.kept hS.2.1).moved al) (fun z => (z.kept hS.2.1).moved al)⟩, (h8.kept (hS.2.1 _ h9 ?_)).moved al, Nat.lt_of_lt_of_le h9 hS.1, h10⟩
  exact fun z => absurd (show b0 ≤ ta 3000 from z) (by omega)
theorem Kx.calling {X : Nat × (Nat → Int32)} {D : va_G} {cA : Nat → ClassId} {ta : Nat → Nat} {b0 : Nat} {U : State} (g : JFrame) (mk : MethodId) (a : Array Value) (h : Kx X D cA ta b0 U) : Kx X D cA ta b0 (U.calling g mk a) := by
  obtain ⟨h1, h2, h3, h4, h5, h6, h7, h8, h9, h10⟩ := h
  have al : U.vm.Alike (U.calling g mk a).vm := Vm.Alike.refl U.vm
  exact ⟨va_K.moved al h1, fun q hq => (h2 q hq).same rfl rfl, fun q hq => (h3 q hq).same rfl rfl, fun k hk => ⟨(h4 k hk).1.moved al, (h4 k hk).2.moved al⟩, fun k hk => (h5 k hk).same rfl, h6.moved al, ⟨h7.1.moved al, h7.2.imp (fun z => z.moved al) (fun z => z.moved al)⟩, h8.moved al, h9, h10⟩
/-- the locals by place; flr: not known -/
def Lh (b0 : Nat) (ta : Nat → Nat) (lsA : Array Slot) (n : Nat) (ls : List Value) : Prop := lsA.size = n ∧ lv_wf lsA ∧ ∀ (i : Nat) (v : Value), ls[i]? = some v → v ≠ flr → lsA[i]? = some (.val (cv b0 ta v))
def kil (w : Value) : Value := match w with
  | .long _ => flr
  | .double _ => flr
  | w => w
def st1 : List Value → Nat → Value → List Value
  | [], _, _ => []
  | _ :: r, 0, v => v :: r
  | w :: r, 1, v => kil w :: st1 r 0 v
  | w :: r, i + 2, v => w :: st1 r (i + 1) v
def st2 : List Value → Nat → Value → List Value
  | [], _, _ => []
  | [_], 0, v => [v]
  | _ :: _ :: r, 0, v => v :: flr :: r
  | w :: r, 1, v => kil w :: st2 r 0 v
  | w :: r, i + 2, v => w :: st2 r (i + 1) v
theorem kil_ne {w v : Value} (h : kil w = v) (hv : v ≠ flr) : w = v ∧ w.category = 1 := by
  cases w <;> simp_all [kil, Value.category]
theorem st1_get : ∀ (ls : List Value) (i : Nat) (v w : Value) (j : Nat), (st1 ls i v)[j]? = some w → w ≠ flr → (j = i ∧ w = v) ∨ (j ≠ i ∧ ls[j]? = some w ∧ ¬ (j + 1 = i ∧ w.category = 2))
  | [], _, _, _, j, h, _ => by simp [st1] at h
  | a :: r, 0, v, w, j, h, hw => by
    cases j with
    | zero => simp [st1] at h; exact Or.inl ⟨rfl, h.symm⟩
    | succ j => simp [st1] at h; exact Or.inr ⟨by omega, by simpa using h, by omega⟩
  | a :: r, 1, v, w, j, h, hw => by
    cases j with
    | zero =>
      simp only [st1, List.getElem?_cons_zero, Option.some.injEq] at h
      obtain ⟨h1, h2⟩ := kil_ne h hw
      exact Or.inr ⟨by omega, by simp [h1], fun z => by rw [← h1] at z; omega⟩
    | succ j =>
      simp only [st1, List.getElem?_cons_succ] at h
      rcases st1_get r 0 v w j h hw with ⟨h1, h2⟩ | ⟨h1, h2, h3⟩
      · exact Or.inl ⟨by omega, h2⟩
      · exact Or.inr ⟨by omega, by simpa using h2, by omega⟩
  | a :: r, i + 2, v, w, j, h, hw => by
    cases j with
    | zero => simp [st1] at h; exact Or.inr ⟨by omega, by simp [h], by omega⟩
    | succ j =>
      simp only [st1, List.getElem?_cons_succ] at h
      rcases st1_get r (i + 1) v w j h hw with ⟨h1, h2⟩ | ⟨h1, h2, h3⟩
      · exact Or.inl ⟨by omega, h2⟩
      · exact Or.inr ⟨by omega, by simpa using h2, fun z => h3 ⟨by omega, z.2⟩⟩
theorem st2_get : ∀ (ls : List Value) (i : Nat) (v w : Value) (j : Nat), (st2 ls i v)[j]? = some w → w ≠ flr → (j = i ∧ w = v) ∨ (j ≠ i ∧ j ≠ i + 1 ∧ ls[j]? = some w ∧ ¬ (j + 1 = i ∧ w.category = 2))
  | [], _, _, _, j, h, _ => by simp [st2] at h
  | [a], 0, v, w, j, h, hw => by
    cases j with
    | zero => simp [st2] at h; exact Or.inl ⟨rfl, h.symm⟩
    | succ j => simp [st2] at h
  | a :: b :: r, 0, v, w, j, h, hw => by
    rcases j with _ | _ | j
    · simp [st2] at h; exact Or.inl ⟨rfl, h.symm⟩
    · simp [st2] at h; exact absurd h.symm hw
    · simp [st2] at h; exact Or.inr ⟨by omega, by omega, by simpa using h, by omega⟩
  | a :: r, 1, v, w, j, h, hw => by
    cases j with
    | zero =>
      simp only [st2, List.getElem?_cons_zero, Option.some.injEq] at h
      obtain ⟨h1, h2⟩ := kil_ne h hw
      exact Or.inr ⟨by omega, by omega, by simp [h1], fun z => by rw [← h1] at z; omega⟩
    | succ j =>
      simp only [st2, List.getElem?_cons_succ] at h
      rcases st2_get r 0 v w j h hw with ⟨h1, h2⟩ | ⟨h1, h4, h2, h3⟩
      · exact Or.inl ⟨by omega, h2⟩
      · exact Or.inr ⟨by omega, by omega, by simpa using h2, by omega⟩
  | a :: r, i + 2, v, w, j, h, hw => by
    cases j with
    | zero => simp [st2] at h; exact Or.inr ⟨by omega, by omega, by simp [h], by omega⟩
    | succ j =>
      simp only [st2, List.getElem?_cons_succ] at h
      rcases st2_get r (i + 1) v w j h hw with ⟨h1, h2⟩ | ⟨h1, h4, h2, h3⟩
      · exact Or.inl ⟨by omega, h2⟩
      · exact Or.inr ⟨by omega, by omega, by simpa using h2, fun z => h3 ⟨by omega, z.2⟩⟩
def lvl (b0 : Nat) (ta : Nat → Nat) (ls : List Value) : List (Nat × Value) := (ls.zipIdx.filter (fun q => decide (q.1 ≠ flr))).map (fun q => (q.2, cv b0 ta q.1))
theorem Lh.has {b0 : Nat} {ta : Nat → Nat} {lsA : Array Slot} {n : Nat} {ls : List Value} (h : Lh b0 ta lsA n ls) : lv_has lsA n (lvl b0 ta ls) := by
  refine ⟨h.1, h.2.1, fun q hq => ?_⟩
  simp only [lvl, List.mem_map, List.mem_filter, decide_eq_true_eq] at hq
  obtain ⟨⟨v, i⟩, ⟨h1, h2⟩, rfl⟩ := hq
  exact h.2.2 i v (by simpa using List.mem_zipIdx_iff_getElem?.mp h1) h2
theorem lvl_mem {b0 : Nat} {ta : Nat → Nat} {ls : List Value} {j : Nat} {w : Value} (h : ls[j]? = some w) (hw : w ≠ flr) : (j, cv b0 ta w) ∈ lvl b0 ta ls := by
  simp only [lvl, List.mem_map, List.mem_filter, decide_eq_true_eq]
  exact ⟨(w, j), ⟨List.mem_zipIdx_iff_getElem?.mpr (by simpa using h), hw⟩, rfl⟩
theorem Lh.st1 {b0 : Nat} {ta : Nat → Nat} {lsA : Array Slot} {n i : Nat} {ls : List Value} {v : Value} (h : lv_has lsA n ((i, cv b0 ta v) :: (lvl b0 ta ls).filter (fun q => !(q.1 == i) && !(q.1 + 1 == i && q.2.category == 2)))) : Lh b0 ta lsA n (st1 ls i v) := by
  refine ⟨h.1, h.2.1, fun j w hj hw => ?_⟩
  rcases st1_get ls i v w j hj hw with ⟨rfl, rfl⟩ | ⟨h1, h2, h3⟩
  · exact h.2.2 _ (List.mem_cons_self)
  · refine h.2.2 (j, cv b0 ta w) (List.mem_cons_of_mem _ (List.mem_filter.mpr ⟨lvl_mem h2 hw, ?_⟩))
    simp only [cv_cat, Bool.and_eq_true, Bool.not_eq_true', beq_eq_false_iff_ne, ne_eq, Bool.and_eq_false_iff]
    refine ⟨h1, ?_⟩
    by_cases hz : j + 1 = i
    · exact Or.inr (fun z => h3 ⟨hz, z⟩)
    · exact Or.inl hz
theorem Lh.st2 {b0 : Nat} {ta : Nat → Nat} {lsA : Array Slot} {n i : Nat} {ls : List Value} {v : Value} (h : lv_has lsA n ((i, cv b0 ta v) :: (lvl b0 ta ls).filter (fun q => !(q.1 == i) && (!(q.1 == i + 1) && !(q.1 + 1 == i && q.2.category == 2))))) : Lh b0 ta lsA n (st2 ls i v) := by
  refine ⟨h.1, h.2.1, fun j w hj hw => ?_⟩
  rcases st2_get ls i v w j hj hw with ⟨rfl, rfl⟩ | ⟨h1, h4, h2, h3⟩
  · exact h.2.2 _ (List.mem_cons_self)
  · refine h.2.2 (j, cv b0 ta w) (List.mem_cons_of_mem _ (List.mem_filter.mpr ⟨lvl_mem h2 hw, ?_⟩))
    simp only [cv_cat, Bool.and_eq_true, Bool.not_eq_true', beq_eq_false_iff_ne, ne_eq, Bool.and_eq_false_iff]
    refine ⟨h1, h4, ?_⟩
    by_cases hz : j + 1 = i
    · exact Or.inr (fun z => h3 ⟨hz, z⟩)
    · exact Or.inl hz
/-- what stays while a method runs -/
def Cx (X : Nat × (Nat → Int32)) (mt : MT) (d : Nat) (p : Program) (R : Room) (s : State) (m : MethodId) (args : Array Value) (c : Code) (D : va_G) (cA : Nat → ClassId) (ta : Nat → Nat) (b0 cells slots : Nat) : Prop :=
  p.tables.exec = Jvm.exec ∧ c.code = mt.2.1 ∧ c.maxLocals = mt.2.2.1 ∧ s.vm.findClass mt.1.cls = some m.cls ∧ (∀ w ∈ gtb, w.before args s = true) ∧ Kx X D cA ta b0 s ∧ d ≤ R.frames ∧ 64 * d ≤ R.locals ∧ cells ≤ R.cells ∧ slots ≤ R.slots
/-- at a return: the answer and the instruction fit -/
def Rt (mt : MT) (pc : Nat) (r : Option Value) : Prop := (r = none ∧ mt.2.2.2 = none ∧ decode mt.2.1 pc = .ok (.return_, 1)) ∨ (∃ (v : Int32) (ty : FieldType), r = some (.int v) ∧ mt.2.2.2 = some ty ∧ narrow ty (.int v) = .int v ∧ decode mt.2.1 pc = .ok (.ireturn, 1)) ∨ (∃ v : Int64, r = some (.long v) ∧ mt.2.2.2 = some .long ∧ decode mt.2.1 pc = .ok (.lreturn, 1)) ∨ ((r = some .null ∨ ∃ n, r = some (.ref n)) ∧ (∃ n, mt.2.2.2 = some (.object n)) ∧ decode mt.2.1 pc = .ok (.areturn, 1))
/-- from here the method comes to a return with Q -/
def Wa (X : Nat × (Nat → Int32)) (mt : MT) (d pc : Nat) (ls st : List Value) (μ : Me) (Q : Option Value → Me → Prop) : Prop :=
  ∀ (p : Program) (l : Launch) (e : Env) (R : Room) (s : State) (m : MethodId) (args : Array Value) (below : List Frame) (meth : Method) (c : Code) (D : va_G) (cA : Nat → ClassId) (ta : Nat → Nat) (b0 : Nat) (H : Heap) (locs : List Loc) (lsA : Array Slot) (cells slots : Nat) (Fin : State → Prop),
    Cx X mt d p R s m args c D cA ta b0 cells slots → va_P D kl (wl b0 cA μ) H → va_S (Ab b0) s.heap H locs → Lh b0 ta lsA mt.2.2.1 ls →
    (∀ (r : Option Value) (μ' : Me) (H' : Heap) (locs' : List Loc) (pc' : Nat) (lsA' : Array Slot), Q r μ' → va_P D kl (wl b0 cA μ') H' → va_S (Ab b0) s.heap H' locs' → Rt mt pc' r → W p l e R s m args below meth c H' locs' cells slots Fin (F0 m pc' lsA' (r.toList.map (cv b0 ta)))) →
    W p l e R s m args below meth c H locs cells slots Fin (F0 m pc lsA (st.map (cv b0 ta)))
def Pcx (X : Nat × (Nat → Int32)) (D : va_G) (cA : Nat → ClassId) (ta : Nat → Nat) (b0 : Nat) (avs : List Value) (μ : Me) : Array Value → State → Prop := va_Pc (avs.map (cv b0 ta)) (fun U => va_P D kl (wl b0 cA μ) U.heap ∧ Kx X D cA ta b0 U)
def Qcx (D : va_G) (cA : Nat → ClassId) (ta : Nat → Nat) (b0 : Nat) (post : Option Value → Me → Prop) : Array Value → State → Outcome → State → Prop := fun _ st oc t => (∃ (r : Option Value) (μ' : Me), oc = .returned (r.map (cv b0 ta)) ∧ post r μ' ∧ va_P D kl (wl b0 cA μ') t.heap) ∧ va_F (Ab b0) st t
/-- a method's contract: from the memory μ, with these arguments, it returns with post -/
def Ct (mt : MT) (d : Nat) (avs : List Value) (μ : Me) (post : Option Value → Me → Prop) : Prop :=
  ∀ (l : Launch) (X : Nat × (Nat → Int32)) (D : va_G) (cA : Nat → ClassId) (ta : Nat → Nat) (b0 : Nat), Met l mt.1 (wsm mt) (rmD d) (Pcx X D cA ta b0 avs μ) (Qcx D cA ta b0 post) 0 0 (Ab b0)
theorem Pcx.blind {X : Nat × (Nat → Int32)} {D : va_G} {cA : Nat → ClassId} {ta : Nat → Nat} {b0 : Nat} {avs : List Value} {μ : Me} : FrameBlind (Pcx X D cA ta b0 avs μ) := fun a U g mk q => ⟨q.1, q.2.1, q.2.2.calling g mk a⟩
def sl : List Value → List Value
  | [] => []
  | .long v :: r => .long v :: flr :: sl r
  | .double v :: r => .double v :: flr :: sl r
  | v :: r => v :: sl r
theorem lg_sl_cons (v : Value) (r : List Value) : lg_sl (v :: r) = (if v.category = 2 then [.val v, .second] else [.val v]) ++ lg_sl r := by simp [lg_sl]
theorem sl_len (b0 : Nat) (ta : Nat → Nat) : ∀ avs : List Value, (lg_sl (avs.map (cv b0 ta))).length = (sl avs).length
  | [] => rfl
  | v :: r => by
    have ih := sl_len b0 ta r
    rw [List.map_cons, lg_sl_cons]
    cases v <;> simp [cv, sl, Value.category, ih] <;> omega
theorem sl_at (b0 : Nat) (ta : Nat → Nat) : ∀ (avs : List Value) (i : Nat) (v : Value), (sl avs)[i]? = some v → v ≠ flr → (lg_sl (avs.map (cv b0 ta)))[i]? = some (.val (cv b0 ta v))
  | [], i, v, h, _ => by simp [sl] at h
  | a :: r, i, v, h, hv => by
    have ih := sl_at b0 ta r
    rw [List.map_cons, lg_sl_cons]
    cases a with
    | long z =>
      rcases i with _ | _ | i
      · simp [sl] at h; subst h; simp [cv, Value.category]
      · simp [sl] at h; exact absurd h.symm hv
      · simp [sl] at h; simpa [cv, Value.category] using ih i v h hv
    | double z =>
      rcases i with _ | _ | i
      · simp [sl] at h; subst h; simp [cv, Value.category]
      · simp [sl] at h; exact absurd h.symm hv
      · simp [sl] at h; simpa [cv, Value.category] using ih i v h hv
    | _ =>
      rcases i with _ | i
      · simp [sl] at h; subst h; simp [cv, Value.category]
      · simp [sl] at h; simpa [cv, Value.category] using ih i v h hv
theorem Ct.of {mt : MT} {d : Nat} {avs ls : List Value} {μ : Me} {post : Option Value → Me → Prop} (hp : plainName mt.1.cls = true) (hle : (sl avs).length ≤ mt.2.2.1) (hls : sl avs ++ List.replicate (mt.2.2.1 - (sl avs).length) flr = ls)
    (h : ∀ X, Wa X mt d 0 ls [] μ post) : Ct mt d avs μ post := by
  intro l X D cA ta b0
  refine Met.ofW (cc := mt.2.1) (maxL := mt.2.2.1) (ret := mt.2.2.2) hp rfl ?_
  intro p e s m args below meth c s₁ B hml hv
  obtain ⟨rfl, hP, hK⟩ := hv
  have hts := atoms_spec (ws := wsm mt) B.pre
  have hown : s.vm.findClass mt.1.cls = some m.cls := findClass_of_methodNamed B.named
  have hlocks := B.notSynchronized
  have hret := B.returns
  rw [lg_entry_eq]
  refine h X p l e _ s m _ below meth c D cA ta b0 s.heap [] _ 0 0 _ ⟨B.exec, B.bytes, hml, hown, fun w hw => hts w (List.mem_cons_of_mem _ hw), hK, Nat.le_refl _, Nat.le_refl _, Nat.le_refl _, Nat.le_refl _⟩ hP va_S.rf ?_ ?_
  · have hh := lv_entry (avs.map (cv b0 ta)) (n := mt.2.2.1) (by rw [sl_len]; exact hle)
    refine ⟨hh.1, hh.2.1, fun i v hi hv => ?_⟩
    rw [← hls] at hi
    by_cases hlt : i < (sl avs).length
    · rw [List.getElem?_append_left hlt] at hi
      have := sl_at b0 ta avs i v hi hv
      rw [List.getElem?_toArray, List.getElem?_append_left (by rw [sl_len]; exact hlt)]
      exact this
    · rw [List.getElem?_append_right (by omega)] at hi
      exact absurd (List.eq_of_mem_replicate (List.mem_of_getElem? hi)) hv
  · intro r μ' H' locs' pc' lsA' hQ hP' hS' hR
    have hfin : ∀ t : State, t.heap = H' → s.WarmedH t.vm → Qcx D cA ta b0 post (avs.map (cv b0 ta)).toArray s (.returned (r.map (cv b0 ta))) t := fun t ht _ => ⟨⟨r, μ', rfl, hQ, by rw [ht]; exact hP'⟩, hS'.F ht⟩
    rcases hR with ⟨rfl, h2, hd⟩ | ⟨v, ty, rfl, h2, hn, hd⟩ | ⟨v, rfl, h2, hd⟩ | ⟨hv, ⟨n, h2⟩, hd⟩
    · exact W.vret B.exec B.bytes (hret.trans h2) hfin hS'.2.2 hd hlocks
    · exact W.zret B.exec B.bytes (hret.trans h2) hn hfin hS'.2.2 hd hlocks
    · exact W.lret B.exec B.bytes (hret.trans h2) hfin hS'.2.2 hd hlocks
    · rcases hv with rfl | ⟨k, rfl⟩
      · exact W.aret B.exec B.bytes (hret.trans h2) (Or.inl ⟨n, rfl⟩) (Or.inl rfl) hfin hS'.2.2 hd hlocks
      · exact W.aret B.exec B.bytes (hret.trans h2) (Or.inl ⟨n, rfl⟩) (Or.inr ⟨_, rfl⟩) hfin hS'.2.2 hd hlocks
