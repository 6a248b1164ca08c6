section Rules2
variable {X : Nat × (Nat → Int32)} {mt : MT} {d pc n : Nat} {ls st : List Value} {μ : Me} {Q : Option Value → Me → Prop}
/-- System.arraycopy of a row of ints, from its start -/
theorem r_copy {idx c0 c1 N0 N1 b0' g0 b1 g1 : Nat} {z : Int32} (hf : Cond.methodLink mt.1.cls idx arraycopyName ∈ gtb ∧ Cond.native arraycopyName ∈ gtb ∧ Cond.static arraycopyName ∈ gtb ∧ Cond.initialized "java/lang/System" ∈ gtb) (hs0 : shp[c0]? = some (.inr (0, N0, b0', g0))) (hs1 : shp[c1]? = some (.inr (0, N1, b1, g1))) (hz : ¬ z < 0) (h0 : z.toNatClampNeg ≤ N0) (h1 : z.toNatClampNeg ≤ N1) (hd : Dc mt pc (.invokestatic idx) 3 n) (hw : (st.map fun v => v.category).sum ≤ 8) (hdd : 0 < d) (k : Wa X mt d n ls st (rI μ c1 (va_cpy (μ.1 c0) (μ.1 c1) 0 0 z.toNatClampNeg)) Q) : Wa X mt d pc ls (.int z :: .int 0 :: .ref c1 :: .int 0 :: .ref c0 :: st) μ Q := by
  intro p l e R s m args below meth c D cA ta b0 H locs lsA cells slots Fin C hP hS hl hF
  obtain ⟨hd, rfl⟩ := hd
  have hc0 := shp_lt hs0
  have hc1 := shp_lt hs1
  rw [List.map_cons, List.map_cons, List.map_cons, List.map_cons, List.map_cons, cv_ref (show c1 < 1000 by omega), cv_ref (show c0 < 1000 by omega)]
  obtain ⟨e1, e2, e3, e4, e5, e6, e7, e8, e9, e10⟩ := C
  have hnat : nativeFrameWords "java/lang/System" "arraycopy" 5 + 11 ≤ 56 := by decide
  refine va_copyi e1 e2 (e3.trans hl.1.symm) e4 (e5 _ hf.1) (e5 _ hf.2.1) (e5 _ hf.2.2.1) (e5 _ hf.2.2.2) e6.1 hP wl_D hS c0 c1 0 0 (wl_get hs0) (wl_get hs1) rfl rfl rfl (by decide) (by decide) hz (by show 0 + z.toNatClampNeg ≤ N0; omega) (by show 0 + z.toNatClampNeg ≤ N1; omega) (fun i hi => rfl) (by omega) (by rw [cv_cats]; omega) hd (fun H1 locs1 hP1 _ hS1 => ?_)
  have hP1 : va_P D kl ((wl b0 cA μ).set c1 (b0 + c1, .inl (cA 0, N1, .inl (va_cpy (μ.1 c0) (μ.1 c1) 0 0 z.toNatClampNeg)))) H1 := hP1
  rw [wl_set (μ' := rI μ c1 (va_cpy (μ.1 c0) (μ.1 c1) 0 0 z.toNatClampNeg)) hs1 (by simp [ea, av, rI_eq]) (fun c' sp' hne => ea_rI_ne hne)] at hP1
  exact k p l e R s m args below meth c D cA ta b0 H1 locs1 lsA cells slots Fin ⟨e1, e2, e3, e4, e5, e6, e7, e8, e9, e10⟩ hP1 hS1 hl hF
/-- a table switch: targets by value, and the default -/
def tsOk (pc : Nat) (lo hi : Int) (offs : List Int) (tg : List (Int32 × Nat)) : Bool :=
  decide (tg.length = offs.length) && decide (hi = lo + offs.length - 1) && (List.range tg.length).all (fun j => match tg[j]?, offs[j]? with
    | some q, some o => decide (q.1.toInt = lo + j) && decide ((pc : Int) + o = (q.2 : Int))
    | _, _ => false)
def Ts (mt : MT) (pc : Nat) (tg : List (Int32 × Nat)) (dt : Nat) : Prop := ∃ (dflt lo hi : Int) (offs : List Int) (len : Nat), decode mt.2.1 pc = .ok (.tableswitch dflt lo hi offs.toArray, len) ∧ (pc : Int) + dflt = (dt : Int) ∧ tsOk pc lo hi offs tg = true
theorem r_ts {x : Int32} {tg : List (Int32 × Nat)} {dt : Nat} (hd : Ts mt pc tg dt) (k : ∀ q ∈ tg, x = q.1 → Wa X mt d q.2 ls st μ Q) (k0 : (∀ q ∈ tg, ¬ x = q.1) → Wa X mt d dt ls st μ Q) : Wa X mt d pc ls (.int x :: st) μ Q := by
  obtain ⟨dflt, lo, hi, offs, len, hd, hdt, hok⟩ := hd
  simp only [tsOk, Bool.and_eq_true, decide_eq_true_eq, List.all_eq_true, List.mem_range] at hok
  obtain ⟨⟨h1, h2⟩, h3⟩ := hok
  have key : ∀ j : Nat, j < tg.length → ∃ q o, tg[j]? = some q ∧ offs[j]? = some o ∧ q.1.toInt = lo + j ∧ (pc : Int) + o = (q.2 : Int) := by
    intro j hj
    have := h3 j hj
    cases ht : tg[j]? with
    | none => rw [ht] at this; simp at this
    | some q =>
      cases ho : offs[j]? with
      | none => rw [ht, ho] at this; simp at this
      | some o =>
        rw [ht, ho] at this
        simp only [Bool.and_eq_true, decide_eq_true_eq] at this
        exact ⟨q, o, rfl, rfl, this.1, this.2⟩
  by_cases hx : x.toInt < lo ∨ hi < x.toInt
  · have k1 := k0 (fun q hq hxq => by
      obtain ⟨j, hj⟩ := List.getElem?_of_mem hq
      have hl := (List.getElem?_eq_some_iff.mp hj).1
      obtain ⟨q', o, g1, g2, g3, g4⟩ := key j hl
      rw [hj] at g1
      cases g1
      rw [hxq, g3] at hx
      omega)
    intro p l e R s m args below meth c D cA ta b0 H locs lsA cells slots Fin C hP hS hl hF
    exact lv_tableOut C.1 C.2.1 hd hx hdt (k1 p l e R s m args below meth c D cA ta b0 H locs lsA cells slots Fin C hP hS hl hF)
  · have hj : (x.toInt - lo).toNat < tg.length := by omega
    obtain ⟨q, o, g1, g2, g3, g4⟩ := key _ hj
    have hxq : x = q.1 := Int32.toInt_inj.mp (by rw [g3]; omega)
    have k1 := k q (List.mem_of_getElem? g1) hxq
    intro p l e R s m args below meth c D cA ta b0 H locs lsA cells slots Fin C hP hS hl hF
    exact lv_tableIn C.1 C.2.1 hd (by omega) (by omega) (by simpa using g2) g4 (k1 p l e R s m args below meth c D cA ta b0 H locs lsA cells slots Fin C hP hS hl hF)
def lsOk (pc : Nat) (ps : List (Int × Int)) (tg : List (Int32 × Nat)) : Bool := match ps, tg with
  | [], [] => true
  | a :: ps, q :: tg => decide (q.1.toInt = a.1) && decide ((pc : Int) + a.2 = (q.2 : Int)) && lsOk pc ps tg
  | _, _ => false
def Lsw (mt : MT) (pc : Nat) (tg : List (Int32 × Nat)) (dt : Nat) : Prop := ∃ (dflt : Int) (ps : List (Int × Int)) (len : Nat), decode mt.2.1 pc = .ok (.lookupswitch dflt ps.toArray, len) ∧ (pc : Int) + dflt = (dt : Int) ∧ lsOk pc ps tg = true ∧ (ps.zip (ps.drop 1)).all (fun (a, next) => a.1 < next.1) = true
theorem lsw_off (pc : Nat) (x : Int32) (dflt : Int) : ∀ (ps : List (Int × Int)) (tg : List (Int32 × Nat)), lsOk pc ps tg = true → (∃ q ∈ tg, x = q.1 ∧ (pc : Int) + Op.lookupswitch.offset ps dflt x.toInt = (q.2 : Int)) ∨ ((∀ q ∈ tg, ¬ x = q.1) ∧ Op.lookupswitch.offset ps dflt x.toInt = dflt)
  | [], [], _ => Or.inr ⟨fun q h => by simp at h, rfl⟩
  | [], _ :: _, h => by simp [lsOk] at h
  | _ :: _, [], h => by simp [lsOk] at h
  | (a, o) :: ps, q :: tg, h => by
    simp only [lsOk, Bool.and_eq_true, decide_eq_true_eq] at h
    obtain ⟨⟨h1, h2⟩, h3⟩ := h
    by_cases hx : x = q.1
    · refine Or.inl ⟨q, List.mem_cons_self, hx, ?_⟩
      rw [Op.lookupswitch.offset_cons, if_pos (by rw [hx, h1])]
      exact h2
    · rw [lv_osw hx h1]
      rcases lsw_off pc x dflt ps tg h3 with ⟨q', g1, g2, g3⟩ | ⟨g1, g2⟩
      · exact Or.inl ⟨q', List.mem_cons_of_mem _ g1, g2, g3⟩
      · refine Or.inr ⟨fun q' hq' => ?_, g2⟩
        rcases List.mem_cons.mp hq' with rfl | hq'
        · exact hx
        · exact g1 q' hq'
theorem r_ls {x : Int32} {tg : List (Int32 × Nat)} {dt : Nat} (hd : Lsw mt pc tg dt) (k : ∀ q ∈ tg, x = q.1 → Wa X mt d q.2 ls st μ Q) (k0 : (∀ q ∈ tg, ¬ x = q.1) → Wa X mt d dt ls st μ Q) : Wa X mt d pc ls (.int x :: st) μ Q := by
  obtain ⟨dflt, ps, len, hd, hdt, hok, hso⟩ := hd
  rcases lsw_off pc x dflt ps tg hok with ⟨q, g1, g2, g3⟩ | ⟨g1, g2⟩
  · have k1 := k q g1 g2
    intro p l e R s m args below meth c D cA ta b0 H locs lsA cells slots Fin C hP hS hl hF
    exact lv_lookup C.1 C.2.1 hd hso rfl g3 (k1 p l e R s m args below meth c D cA ta b0 H locs lsA cells slots Fin C hP hS hl hF)
  · have k1 := k0 g1
    intro p l e R s m args below meth c D cA ta b0 H locs lsA cells slots Fin C hP hS hl hF
    exact lv_lookup C.1 C.2.1 hd hso g2 hdt (k1 p l e R s m args below meth c D cA ta b0 H locs lsA cells slots Fin C hP hS hl hF)
/-- what a walk must come to may be weaker -/
theorem Wa.mono {Q' : Option Value → Me → Prop} (h : ∀ r μ', Q' r μ' → Q r μ') (k : Wa X mt d pc ls st μ Q') : Wa X mt d pc ls st μ Q := by
  intro p l e R s m args below meth c D cA ta b0 H locs lsA cells slots Fin C hP hS hl hF
  exact k p l e R s m args below meth c D cA ta b0 H locs lsA cells slots Fin C hP hS hl (fun r μ' H' locs' pc' lsA' hq => hF r μ' H' locs' pc' lsA' (h r μ' hq))
theorem Wa.eqI {x y : Int32} (h : x = y) (k : Wa X mt d pc ls (.int y :: st) μ Q) : Wa X mt d pc ls (.int x :: st) μ Q := h ▸ k
theorem Wa.eqM {μ' : Me} (h : μ = μ') (k : Wa X mt d pc ls st μ' Q) : Wa X mt d pc ls st μ Q := h ▸ k
end Rules2
