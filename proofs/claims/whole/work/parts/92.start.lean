def R_law : String := "SevenEightsLaw"
def lw_P (b : Addr) (xs : List Int32) (args : Array Value) (s : State) : Prop := args = #[.ref b] ∧ s.IntsAt b xs ∧ xs.length ≤ 384 ∧ (Jvm.Cond.and given_1 narrow_1).before args s = true
def lw_Q (_ : Array Value) (s : State) (o : Outcome) (t : State) : Prop := o = .returned (some (.int 1)) ∧ Framed s o t [] 600000 7302250
def lw_Z (below : List Frame) (a : Array Value) (s : State) : State → Prop := fun t => ∃ o, t.status = .running ∧ Ended t below o ∧ lw_Q a s o t
/-- the law's own end, with 1 on the stack, nothing written that was there before, its room as the claim has it -/
theorem lw_ret {p : Program} {l : Launch} {e : Env} {s : State} {m : MethodId} {below : List Frame} {meth : Method} {c : Code} {b : Nat} (hx : p.tables.exec = Jvm.exec) (hb : c.code = code) (hr : meth.sig.returnType = ret) (hlocks : meth.locks = false) {pc : Nat} {H : Heap} {ls : Array Slot} (hdg : decode code pc = .ok (.ireturn, 1)) : W p l e room_1 s m #[Value.ref b] below meth c H [] 600000 7302250 (lw_Z below #[Value.ref b] s) (F0 m pc ls [.int 1]) := by
  intro T hT X
  obtain ⟨fs, hret, hrun, hended, hW, hframe⟩ := X.leave (v := some (.int 1)) (hlocks := hlocks) (fun h => by rw [hr] at h; cases h)
  have hmeth' : T.vm.method? m = some meth := X.method'
  refine ⟨T.setFrames fs, ?_, .returned (some (.int 1)), hrun, hended, rfl, ⟨_, rfl⟩, hW, hframe⟩
  jvm_step X.here [X.here.top, hx, hb, hdg, hmeth', hr, ret, narrow_b1]
  (try refine ⟨rfl, ?_⟩); (try refine ⟨rfl, ?_⟩)
  first | (intro acts; rw [hret _ acts rfl rfl rfl]) | rw [hret _ _ rfl rfl rfl]
  exact Steps.refl _
/-- what holds at the law's entry: the machine, the code, the tables' words (any of lw_tbl by 'hts w (by decide +kernel)'), the script of L ints xs at the cell b, what the Statement gives of the start (any of its parts by flat_of_before) -/
def lw_At (p : Program) (s : State) (m : MethodId) (meth : Method) (c : Code) (b L : Nat) (xs : Nat → Int32) : Prop :=
  p.tables.exec = Jvm.exec ∧ c.code = code ∧ meth.sig.returnType = ret ∧ c.maxLocals = 4 ∧ s.vm.findClass R_law = some m.cls ∧ (∀ w ∈ lw_tbl, w.before #[Value.ref b] s = true) ∧ va_X b L xs s s.heap ∧ b < s.heap.size ∧ meth.locks = false ∧ (Jvm.Cond.and given_1 narrow_1).before #[Value.ref b] s = true
/-! what the Statement gives at the law's entry -/
def flt1 : List Cond := flatC (Jvm.Cond.and given_1 narrow_1)
set_option maxRecDepth 100000 in
theorem st_arr : ∀ k : Fin 8, Cond.arrayOf (.static "SevenEights" (stn k.val) "[I") .int ∈ flt1 := by decide +kernel
set_option maxRecDepth 100000 in
theorem st_len : ∀ k : Fin 8, Cond.eq (.length (.static "SevenEights" (stn k.val) "[I")) (.int (Int32.ofNat (sta k.val).length)) ∈ flt1 := by decide +kernel
set_option maxRecDepth 100000 in
theorem st_el : ∀ k : Fin 8, ∀ j : Fin 36, j.val < (sta k.val).length → Cond.eq (.elem (.static "SevenEights" (stn k.val) "[I") (.int (Int32.ofNat j.val))) (.int ((sta k.val).getD j.val 0)) ∈ flt1 := by decide +kernel
set_option maxRecDepth 100000 in
theorem st_36 : ∀ k : Fin 8, (sta k.val).length ≤ 36 := by decide +kernel
set_option maxRecDepth 100000 in
theorem st_lay : ∀ k : Fin 8, Cond.laysStatic "SevenEights" (stn k.val) "[I" ∈ tables_1 := by decide +kernel
set_option maxRecDepth 100000 in
theorem sr_ex : ∀ i : Fin 4, Cond.exactly (.string "SevenEights$Text" (ssx i.val).2) "java/lang/String" ∈ flt1 := by decide +kernel
set_option maxRecDepth 100000 in
theorem sr_co : ∀ i : Fin 4, Cond.eq (.field (.string "SevenEights$Text" (ssx i.val).2) "java/lang/String" "coder" "B") (.int 0) ∈ flt1 := by decide +kernel
set_option maxRecDepth 100000 in
theorem sr_ar : ∀ i : Fin 4, Cond.arrayOf (.field (.string "SevenEights$Text" (ssx i.val).2) "java/lang/String" "value" "[B") .byte ∈ flt1 := by decide +kernel
set_option maxRecDepth 100000 in
theorem sr_le : ∀ i : Fin 4, Cond.eq (.length (.field (.string "SevenEights$Text" (ssx i.val).2) "java/lang/String" "value" "[B")) (.int (Int32.ofNat (ssl.getD i.val 0))) ∈ flt1 := by decide +kernel
set_option maxRecDepth 100000 in
theorem sr_el : ∀ i : Fin 4, ∀ j : Fin 4, j.val < ssl.getD i.val 0 → Cond.eq (.elem (.field (.string "SevenEights$Text" (ssx i.val).2) "java/lang/String" "value" "[B") (.int (Int32.ofNat j.val))) (.int ((ssb.getD i.val []).getD j.val 0)) ∈ flt1 := by decide +kernel
set_option maxRecDepth 100000 in
theorem sr_ne : ∀ i j : Fin 4, i.val ≠ j.val → Cond.not (Cond.eq (.string "SevenEights$Text" (ssx i.val).2) (.string "SevenEights$Text" (ssx j.val).2)) ∈ flt1 ∨ Cond.not (Cond.eq (.string "SevenEights$Text" (ssx j.val).2) (.string "SevenEights$Text" (ssx i.val).2)) ∈ flt1 := by decide +kernel
set_option maxRecDepth 100000 in
theorem sr_ref : ∀ i : Fin 4, Cond.stringRef "SevenEights$Text" (ssx i.val).2 (ssx i.val).1 ∈ tables_1 := by decide +kernel
set_option maxRecDepth 100000 in
theorem nwm_ok : ∀ q ∈ nwm, Cond.methodLinkNest q.1 q.2.1 q.2.2.1 q.2.2.2 ∈ tables_1 := by decide +kernel
set_option maxRecDepth 100000 in
theorem nwf_ok : ∀ q ∈ nwf, Cond.fieldLinkNest q.1 q.2.1 q.2.2.1 q.2.2.2.1 q.2.2.2.2.1 q.2.2.2.2.2 ∈ tables_1 := by decide +kernel
set_option maxRecDepth 100000 in
theorem cs_ok : Cond.eq (.static "java/lang/String" "COMPACT_STRINGS" "Z") (.int 1) ∈ flt1 := by decide +kernel
set_option maxRecDepth 100000 in
theorem si_ok : Cond.isRef (.static "jdk/internal/util/Preconditions" "SIOOBE_FORMATTER" "Ljava/util/function/BiFunction;") ∈ flt1 := by decide +kernel
theorem gtb_in {w : Cond} (h : w ∈ gtb) : w ∈ lw_tbl := (List.mem_filter.mp h).1
theorem tab_in {w : Cond} (h : w ∈ tables_1) : w ∈ lw_tbl := List.mem_append_right _ h
def tyT : List FieldType := [.int, .byte, .long, .object R_Learner, .object R_Sheet, .object R_Shelf]
set_option maxRecDepth 100000 in
theorem kn_start {p : Program} {s : State} {m : MethodId} {meth : Method} {c : Code} {b L : Nat} {xs : Nat → Int32} (C0 : lw_At p s m meth c b L xs) : ∃ (D : va_G) (cA : Nat → ClassId) (ta : Nat → Nat), Kn (L, xs) D cA ta s.heap.size s ∧ ta 3000 = b := by
  obtain ⟨-, -, -, -, -, hts, hX, hb, -, hg⟩ := C0
  have hs := flat_of_before _ hg
  have hA : ∀ a : Nat, a < s.heap.size → ¬ Ab s.heap.size a := fun a h z => absurd (show s.heap.size ≤ a from z) (by omega)
  have hg' : ∀ w ∈ gtb, w.before #[Value.ref b] s = true := fun w h => hts w (gtb_in h)
  have hcl : ∀ ci : Nat, ∃ q : ClassId × (Nat → Nat), ∀ r, kl[ci]? = some r → u_Kn s r.1 r.2.1 r.2.2 q.1 q.2 := by
    intro ci
    rcases (show ci = 0 ∨ ci = 1 ∨ ci = 2 ∨ ci = 3 ∨ ci = 4 ∨ ci = 5 ∨ ci = 6 ∨ ci = 7 ∨ ci = 8 ∨ ci = 9 ∨ ci = 10 ∨ ci = 11 ∨ 12 ≤ ci by omega) with rfl | rfl | rfl | rfl | rfl | rfl | rfl | rfl | rfl | rfl | rfl | rfl | h12
    · obtain ⟨cC, iS, h⟩ := u_known (N := 4) hg' uw_Answer (hg' _ (gi 139 rfl rfl))
      exact ⟨(cC, iS), fun r hr => by cases hr; exact h⟩
    · obtain ⟨cC, iS, h⟩ := u_known (N := 6) hg' uw_Doer (hg' _ (gi 208 rfl rfl))
      exact ⟨(cC, iS), fun r hr => by cases hr; exact h⟩
    · obtain ⟨cC, iS, h⟩ := u_known (N := 5) hg' uw_Learner (hg' _ (gi 61 rfl rfl))
      exact ⟨(cC, iS), fun r hr => by cases hr; exact h⟩
    · obtain ⟨cC, iS, h⟩ := u_known (N := 4) hg' uw_Lesson (hg' _ (gi 37 rfl rfl))
      exact ⟨(cC, iS), fun r hr => by cases hr; exact h⟩
    · obtain ⟨cC, iS, h⟩ := u_known (N := 5) hg' uw_Plan (hg' _ (gi 164 rfl rfl))
      exact ⟨(cC, iS), fun r hr => by cases hr; exact h⟩
    · obtain ⟨cC, iS, h⟩ := u_known (N := 2) hg' uw_Rows (hg' _ (gi 189 rfl rfl))
      exact ⟨(cC, iS), fun r hr => by cases hr; exact h⟩
    · obtain ⟨cC, iS, h⟩ := u_known (N := 6) hg' uw_School (hg' _ (gi 29 rfl rfl))
      exact ⟨(cC, iS), fun r hr => by cases hr; exact h⟩
    · obtain ⟨cC, iS, h⟩ := u_known (N := 3) hg' uw_Sheet (hg' _ (gi 237 rfl rfl))
      exact ⟨(cC, iS), fun r hr => by cases hr; exact h⟩
    · obtain ⟨cC, iS, h⟩ := u_known (N := 3) hg' uw_Shelf (hg' _ (gi 258 rfl rfl))
      exact ⟨(cC, iS), fun r hr => by cases hr; exact h⟩
    · obtain ⟨cC, iS, h⟩ := u_known (N := 3) hg' uw_Text (hg' _ (gi 116 rfl rfl))
      exact ⟨(cC, iS), fun r hr => by cases hr; exact h⟩
    · obtain ⟨cC, iS, h⟩ := u_known (N := 14) hg' uw_S (hg' _ (gi 21 rfl rfl))
      exact ⟨(cC, iS), fun r hr => by cases hr; exact h⟩
    · obtain ⟨cC, iS, h⟩ := u_known (N := 41) hg' uw_M (hg' _ (gi 884 rfl rfl))
      exact ⟨(cC, iS), fun r hr => by cases hr; exact h⟩
    · exact ⟨(m.cls, fun _ => 0), fun r hr => by rw [List.getElem?_eq_none (show kl.length ≤ ci from h12)] at hr; cases hr⟩
  obtain ⟨Dq, hD⟩ := Classical.axiomOfChoice hcl
  have har : ∀ t : Nat, ∃ q : ClassId, ∀ r, tyT[t]? = some r → ArrOfT s q r ∧ va_RA s q r := by
    intro t
    rcases (show t = 0 ∨ t = 1 ∨ t = 2 ∨ t = 3 ∨ t = 4 ∨ t = 5 ∨ 6 ≤ t by omega) with rfl | rfl | rfl | rfl | rfl | rfl | h6
    · obtain ⟨c, k, comp, h1, h2, h3⟩ := Cond.arrayClass_spec (hg' (Cond.arrayClass .int) (gi 60 rfl rfl))
      exact ⟨c, fun r hr => by cases hr; exact ⟨fun n z => ⟨fun k h => (by cases h), k, h2, comp, h3⟩, h1⟩⟩
    · obtain ⟨c, k, comp, h1, h2, h3⟩ := Cond.arrayClass_spec (hg' (Cond.arrayClass .byte) (gi 133 rfl rfl))
      exact ⟨c, fun r hr => by cases hr; exact ⟨fun n z => ⟨fun k h => (by cases h), k, h2, comp, h3⟩, h1⟩⟩
    · obtain ⟨c, k, comp, h1, h2, h3⟩ := Cond.arrayClass_spec (hg' (Cond.arrayClass .long) (gi 257 rfl rfl))
      exact ⟨c, fun r hr => by cases hr; exact ⟨fun n z => ⟨fun k h => (by cases h), k, h2, comp, h3⟩, h1⟩⟩
    · obtain ⟨comp, c, k, h1, h2, h3, h4, h5⟩ := Cond.arrayOver_spec (hts (Cond.arrayOver (.object R_Learner)) (tab_in (List.mem_of_getElem? (i := 35) rfl)))
      exact ⟨c, fun r hr => by cases hr; exact ⟨fun n z => ⟨fun k h => (by cases h), k, h3, comp, h4⟩, k, comp, h3, h4, h1, h5⟩⟩
    · obtain ⟨comp, c, k, h1, h2, h3, h4, h5⟩ := Cond.arrayOver_spec (hts (Cond.arrayOver (.object R_Sheet)) (tab_in (List.mem_of_getElem? (i := 204) rfl)))
      exact ⟨c, fun r hr => by cases hr; exact ⟨fun n z => ⟨fun k h => (by cases h), k, h3, comp, h4⟩, k, comp, h3, h4, h1, h5⟩⟩
    · obtain ⟨comp, c, k, h1, h2, h3, h4, h5⟩ := Cond.arrayOver_spec (hts (Cond.arrayOver (.object R_Shelf)) (tab_in (List.mem_of_getElem? (i := 206) rfl)))
      exact ⟨c, fun r hr => by cases hr; exact ⟨fun n z => ⟨fun k h => (by cases h), k, h3, comp, h4⟩, k, comp, h3, h4, h1, h5⟩⟩
    · exact ⟨m.cls, fun r hr => by rw [List.getElem?_eq_none (show tyT.length ≤ t from h6)] at hr; cases hr⟩
  obtain ⟨cA, hcA⟩ := Classical.axiomOfChoice har
  have hst : ∀ k : Nat, ∃ t : Nat, k < 8 → va_Z "SevenEights" (stn k) "[I" (.ref t) (Ab s.heap.size) s s.heap ∧ va_T .int t (sta k).length (fun j => .int ((sta k).getD j 0)) (Ab s.heap.size) s s.heap := by
    intro k
    by_cases hk : k < 8
    · have h36 : (sta k).length ≤ 36 := st_36 ⟨k, hk⟩
      obtain ⟨t, h1, h2⟩ := va_Tof (f := fun j => .int ((sta k).getD j 0)) (A := Ab s.heap.size) (N := (sta k).length) (by omega) (hs _ (st_arr ⟨k, hk⟩)) (va_eqt (hs _ (st_len ⟨k, hk⟩))) (fun j hj => va_eqt (hs _ (st_el ⟨k, hk⟩ ⟨j, by omega⟩ hj))) hA
      exact ⟨t, fun _ => ⟨va_Zof (hts _ (tab_in (st_lay ⟨k, hk⟩))) (hg' _ (gi 1 rfl rfl)) h1 hA, h2⟩⟩
    · exact ⟨0, fun z => absurd z hk⟩
  obtain ⟨tS, hS⟩ := Classical.axiomOfChoice hst
  obtain ⟨adK, adV, hV, hE⟩ := vk_Sof (args := #[Value.ref b]) (s := s) (N := 4) (tm := fun i => .string "SevenEights$Text" (ssx i).2) (len := ssl) (byt := ssb) (A := Ab s.heap.size) (fun i hi => by have : ssl.getD i 0 ≤ 4 := (ssl_le ⟨i, hi⟩).1; omega) (fun i hi => hs _ (sr_ex ⟨i, hi⟩)) (fun i hi => hs _ (sr_co ⟨i, hi⟩)) (fun i hi => hs _ (sr_ar ⟨i, hi⟩)) (fun i hi => hs _ (sr_le ⟨i, hi⟩)) (fun i hi j hj => hs _ (sr_el ⟨i, hi⟩ ⟨j, by have : ssl.getD i 0 ≤ 4 := (ssl_le ⟨i, hi⟩).1; omega⟩ hj)) (fun i j hi hj hn => (sr_ne ⟨i, hi⟩ ⟨j, hj⟩ hn).imp (fun z => hs _ z) (fun z => hs _ z)) hA
  have hq : va_Zq "jdk/internal/util/Preconditions" "SIOOBE_FORMATTER" "Ljava/util/function/BiFunction;" (Ab s.heap.size) s s.heap := va_Zqof (hts _ (tab_in (List.mem_of_getElem? (i := 377) rfl))) (hg' _ (gi 15 rfl rfl)) (hs _ si_ok) hA
  obtain ⟨fq, hfq⟩ : ∃ t : Nat, va_Z "jdk/internal/util/Preconditions" "SIOOBE_FORMATTER" "Ljava/util/function/BiFunction;" .null (Ab s.heap.size) s s.heap ∨ va_Z "jdk/internal/util/Preconditions" "SIOOBE_FORMATTER" "Ljava/util/function/BiFunction;" (.ref t) (Ab s.heap.size) s s.heap := by
    rcases hq with h | ⟨t, h⟩
    · exact ⟨0, Or.inl h⟩
    · exact ⟨t, Or.inr h⟩
  obtain ⟨ta, t0, t1, t2, t3, t4⟩ : ∃ ta : Nat → Nat, ta 3000 = b ∧ ta 3001 = fq ∧ (∀ k, k < 8 → ta (1000 + k) = tS k) ∧ (∀ k, k < 4 → ta (2000 + k) = adK k) ∧ ∀ k, k < 4 → ta (2100 + k) = adV k := by
    refine ⟨fun n => if n = 3000 then b else if n = 3001 then fq else if n < 2000 then tS (n - 1000) else if n < 2100 then adK (n - 2000) else adV (n - 2100), rfl, rfl, fun k hk => ?_, fun k hk => ?_, fun k hk => ?_⟩
    · show (if 1000 + k = 3000 then b else if 1000 + k = 3001 then fq else if 1000 + k < 2000 then tS (1000 + k - 1000) else _) = _
      rw [if_neg (by omega), if_neg (by omega), if_pos (by omega), Nat.add_sub_cancel_left]
    · show (if 2000 + k = 3000 then b else if 2000 + k = 3001 then fq else if 2000 + k < 2000 then _ else if 2000 + k < 2100 then adK (2000 + k - 2000) else _) = _
      rw [if_neg (by omega), if_neg (by omega), if_neg (by omega), if_pos (by omega), Nat.add_sub_cancel_left]
    · show (if 2100 + k = 3000 then b else if 2100 + k = 3001 then fq else if 2100 + k < 2000 then _ else if 2100 + k < 2100 then _ else adV (2100 + k - 2100)) = _
      rw [if_neg (by omega), if_neg (by omega), if_neg (by omega), if_neg (by omega), Nat.add_sub_cancel_left]
  have ao : ∀ {C : String} (i : Nat), tables_1[i]? = some (Cond.arrayOver (.object C)) → va_AO C s := fun i h => va_AO.of (hts _ (tab_in (List.mem_of_getElem? h)))
  refine ⟨(fun c => (Dq c).1, fun c => (Dq c).2), cA, ta, ⟨⟨⟨fun c q h => hD c q h, fun k q h => ?_⟩, fun q h => va_Nw.of rfl (hts _ (tab_in (nwm_ok q h))), fun q h => va_Nw.of rfl (hts _ (tab_in (nwf_ok q h))), fun k hk => ?_, fun k hk => ?_, ?_, ⟨va_Zof (hts _ (tab_in (List.mem_of_getElem? (i := 361) rfl))) (hg' _ (gi 13 rfl rfl)) (va_eqt (hs _ cs_ok)) hA, ?_⟩, ?_, ?_, ?_⟩, ao 35 rfl, ao 204 rfl, ao 206 rfl⟩, t0⟩
  · rcases (show k = 0 ∨ k = 1 ∨ k = 2 ∨ k = 3 ∨ k = 4 ∨ k = 5 ∨ 6 ≤ k by omega) with rfl | rfl | rfl | rfl | rfl | rfl | h6
    · cases h; exact hcA 0 _ rfl
    · cases h; exact hcA 1 _ rfl
    · cases h; exact hcA 2 _ rfl
    · cases h; exact hcA 3 _ rfl
    · cases h; exact hcA 4 _ rfl
    · cases h; exact hcA 5 _ rfl
    · rw [List.getElem?_eq_none (show (tyl cA).length ≤ k from h6)] at h; cases h
  · rw [t2 k hk]
    exact hS k hk
  · rw [t3 k hk]
    exact vk_R.of (hts _ (tab_in (sr_ref ⟨k, hk⟩))) (hE k hk)
  · refine ⟨fun i hi => ?_, fun i j hi hj e => ?_⟩
    · have := hV.1 i hi
      rw [← t3 i hi, ← t4 i hi] at this
      exact this
    · refine hV.2 i j hi hj ?_
      rw [← t3 i hi, ← t3 j hj]
      exact e
  · rw [t1]
    exact hfq
  · rw [t0]
    exact hX
  · rw [t0]
    exact hb
  · rw [t0]
    exact hb
