/-! constructors: contracts, calls -/
def rmN (d mc ms : Nat) : Room := { frames := d, cells := mc, slots := ms, locals := 64 * d }
def Pcn (X : Nat × (Nat → Int32)) (D : va_G) (cA : Nat → ClassId) (ta : Nat → Nat) (b0 c0 : Nat) (wx : List AE) : Array Value → State → Prop := va_Pc ([Value.ref c0].map (cv b0 ta)) (fun U => U.heap.size = b0 + wx.length ∧ va_P D kl (wm b0 cA ta wx) U.heap ∧ Kn X D cA ta b0 U)
def Qcn (D : va_G) (cA : Nat → ClassId) (ta : Nat → Nat) (b0 : Nat) (wx1 : List AE) : Array Value → State → Outcome → State → Prop := fun _ st oc t => (oc = .returned none ∧ t.heap.size = b0 + wx1.length ∧ va_P D kl (wm b0 cA ta wx1) t.heap) ∧ va_F (Ab b0) st t
/-- a constructor's contract: of the cell c0 of the world wx it makes the world wx1, mc cells of ms slots longer -/
def Nt (mt : MT) (d mc ms c0 : Nat) (wx wx1 : List AE) : Prop := ∀ (l : Launch) (X : Nat × (Nat → Int32)) (D : va_G) (cA : Nat → ClassId) (ta : Nat → Nat) (b0 : Nat), Met l mt.1 (wsm mt) (rmN d mc ms) (Pcn X D cA ta b0 c0 wx) (Qcn D cA ta b0 wx1) mc ms (Ab b0)
theorem Pcn.blind {X : Nat × (Nat → Int32)} {D : va_G} {cA : Nat → ClassId} {ta : Nat → Nat} {b0 c0 : Nat} {wx : List AE} : FrameBlind (Pcn X D cA ta b0 c0 wx) := fun a U g mk q => ⟨q.1, q.2.1, q.2.2.1, q.2.2.2.calling g mk a⟩
theorem Nt.of {mt : MT} {d mc ms c0 : Nat} {wx wx1 : List AE} {ls : List Value} (hp : plainName mt.1.cls = true) (hi : mt.1.name = "<init>") (hr : mt.2.2.2 = none) (hle : 1 ≤ mt.2.2.1) (hls : [Value.ref c0] ++ List.replicate (mt.2.2.1 - 1) flr = ls)
    (h : ∀ X, Wn X mt d 0 ls [] mc ms wx (fun pc _ st wx' => st = [] ∧ decode mt.2.1 pc = .ok (.return_, 1) ∧ wx' = wx1)) : Nt mt d mc ms c0 wx wx1 := by
  intro l X D cA ta b0
  refine Met.ofW (cc := mt.2.1) (maxL := mt.2.2.1) (ret := mt.2.2.2) hp rfl ?_
  intro p e s m args below meth c s₁ B hml hv
  obtain ⟨rfl, hz, hP, hK⟩ := hv
  have hts := atoms_spec (ws := wsm mt) B.pre
  have hown : s.vm.findClass mt.1.cls = some m.cls := findClass_of_methodNamed B.named
  have hin : meth.name = mt.1.name := (name_of_methodNamed B.named B.method).1
  have hlocks := B.notSynchronized
  have hret := B.returns
  rw [lg_entry_eq]
  refine h X p l e _ s m _ below meth c D cA ta b0 s.heap [] _ 0 0 _ ⟨B.exec, B.bytes, hml, hown, fun w hw => hts w (List.mem_cons_of_mem _ hw), hK, Nat.le_refl _, Nat.le_refl _, fun q => hin.trans q⟩ (by show 0 + mc ≤ mc; omega) (by show 0 + ms ≤ ms; omega) (by omega) hP hz va_S.rf ?_ ?_
  · have hh := lv_entry ([Value.ref c0].map (cv b0 ta)) (n := mt.2.2.1) (by rw [sl_len]; exact hle)
    refine ⟨hh.1, hh.2.1, fun i v hi hv => ?_⟩
    rw [← hls] at hi
    by_cases hlt : i < 1
    · rw [List.getElem?_append_left hlt] at hi
      have := sl_at b0 ta [.ref c0] i v hi hv
      rw [List.getElem?_toArray, List.getElem?_append_left (by rw [sl_len]; exact hlt)]
      exact this
    · rw [List.getElem?_append_right (by show 1 ≤ i; omega)] at hi
      exact absurd (List.eq_of_mem_replicate (List.mem_of_getElem? hi)) hv
  · intro pc' ls' st' wx' H' locs' lsA' cells' slots' hE hP' hz' hS' hl' q6 q7 q8
    obtain ⟨rfl, hd, rfl⟩ := hE
    refine W.widen (k := mc) (n := ms) (by omega) (by omega) ?_
    exact W.vret B.exec B.bytes (hret.trans hr) (fun t ht _ => ⟨⟨rfl, by rw [ht]; exact hz', by rw [ht]; exact hP'⟩, hS'.F ht⟩) hS'.2.2 hd hlocks
/-- what a call site of a constructor needs -/
def LkI (own : String) (idx : Nat) (y : MT) : Prop := (Cond.methodLink own idx y.1 ∈ gtb ∨ ∃ host, (own, idx, y.1, host) ∈ nwm) ∧ Cond.instanceMethod y.1 ∈ gtb ∧ Cond.initialized y.1.cls ∈ gtb ∧ Cond.code y.1 y.2.1 y.2.2.1 y.2.2.2 ∈ gtb ∧ y.2.2.1 ≤ 45 ∧ y.1.name = "<init>" ∧ (y.1.cls ≠ "java/lang/invoke/MethodHandle" ∧ y.1.cls ≠ "java/lang/invoke/VarHandle" ∧ (parseMethodDescriptor y.1.desc).map (fun d => d.parameters.length) = some 0) ∧ y.2.2.2 = none
section NCalls
variable {X : Nat × (Nat → Int32)} {mt : MT} {d pc n nc ns : Nat} {ls st : List Value} {wx : List AE} {E : Nat → List Value → List Value → List AE → Prop}
theorem Wn.eqW {wx' : List AE} (h : wx = wx') (k : Wn X mt d pc ls st nc ns wx' E) : Wn X mt d pc ls st nc ns wx E := h ▸ k
theorem n_call {y : MT} {idx d' mc ms c0 nc' ns' : Nat} {wx1 : List AE} (hM : Nt y d' mc ms c0 wx wx1) (hf : LkI mt.1.cls idx y) (hd : Dc mt pc (.invokespecial idx) 3 n) (hc0 : c0 < 1000) (hw : (st.map fun v => v.category).sum ≤ 8) (hdd : d' < d) (h1 : nc' + mc ≤ nc) (h2 : ns' + ms ≤ ns) (hmc : wx.length + mc = wx1.length) (k : Wn X mt d n ls st nc' ns' wx1 E) : Wn X mt d pc ls (.ref c0 :: st) nc ns wx E := by
  intro p l e R s m args below meth c D cA ta b0 H locs lsA cells slots Fin C hc hs hq hP hz hS hl hF
  obtain ⟨hd, rfl⟩ := hd
  obtain ⟨f1, f2, f3, f4, f5, f6, f7, f8⟩ := hf
  obtain ⟨c1, c2, c3, c4, c5, c6, c7, c8, c9⟩ := C
  rw [List.map_cons, cv_ref hc0]
  have hpre : PreS s H (Pcn X D cA ta b0 c0 wx) [Value.ref (b0 + c0)] := ⟨Pcn.blind, fun U hU hW => ⟨by rw [List.map_cons, cv_ref hc0]; rfl, by rw [hU]; exact hz, by rw [hU]; exact hP, c6.move hS hU hW⟩⟩
  have hws : wsm y = Cond.code y.1 y.2.1 y.2.2.1 none :: gtb := by unfold wsm; rw [f8]
  have run : va_Run p l e R s m args below meth c H locs cells slots mc ms (F0 m pc lsA (.ref (b0 + c0) :: st.map (cv b0 ta))) (st.map (cv b0 ta)) (Qcn D cA ta b0 wx1 [Value.ref (b0 + c0)].toArray) (Ab b0) := by
    rcases f1 with f1 | ⟨host, f1⟩
    · exact va_runI ⟨c1, c2, c3, c4, c5⟩ (hM l X D cA ta b0) (cwI (R := R) (rm := rmN d' mc ms) (mc := mc) (ms := ms) (bytes := y.2.1) (maxL := y.2.2.1) (ws' := gtb) 0 c5 (good_wsm f4) hws rfl rfl (c5 _ f3) (c5 _ f1) (c5 _ f2) f6 f7 ⟨by show d' + 1 ≤ R.frames; omega, by show 8 + (y.2.2.1 + 11) + 64 * d' ≤ R.locals; omega⟩) hpre rfl rfl hl.1 rfl (lv_room (by rw [cv_cats]; exact hw)) hd ⟨by omega, by omega⟩
    · exact va_runIN ⟨c1, c2, c3, c4, c5⟩ (hM l X D cA ta b0) ⟨va_cnB (R := R) (rm := rmN d' mc ms) (mc := mc) (ms := ms) (bytes := y.2.1) (maxL := y.2.2.1) (ret := none) (ws' := gtb) 0 c5 (good_wsm f4) hws rfl rfl (c6.1.2.1 _ f1) (c5 _ f3) f7 ⟨by show d' + 1 ≤ R.frames; omega, by show 8 + (y.2.2.1 + 11) + 64 * d' ≤ R.locals; omega⟩, f6, c5 _ f2⟩ hpre rfl rfl hl.1 rfl (lv_room (by rw [cv_cats]; exact hw)) hd ⟨by omega, by omega⟩
  intro T hT Y
  obtain ⟨v, st₀, t, T', L, h0, Y', hL, e1, e2, ⟨⟨hv, hz', hP'⟩, hz2, hk2⟩, stp⟩ := run T hT Y
  cases hv
  rw [h0] at hz2 hk2
  obtain ⟨t2, a1, b1⟩ := k p l e R s m args below meth c D cA ta b0 T'.heap (locs ++ L) lsA (cells + mc) (slots + ms) Fin ⟨c1, c2, c3, c4, c5, c6, c7, c8, c9⟩ (by omega) (by omega) (by omega) (by rw [e1]; exact hP') (by rw [e1]; exact hz') ⟨Nat.le_trans hS.1 (by rw [e1]; exact hz2), fun q h1 h2 => by rw [e1, hk2 q (Nat.lt_of_lt_of_le h1 hS.1) h2]; exact hS.2.1 q h1 h2, fun q hq => by
      rcases List.mem_append.mp hq with h | h
      · exact hS.2.2 q h
      · exact hL q h⟩ hl (fun pc' ls' st' wx' H' locs' lsA' cells' slots' q1 q2 q3 q4 q5 q6 q7 q8 => hF pc' ls' st' wx' H' locs' lsA' cells' slots' q1 q2 q3 q4 q5 (by omega) (by omega) q8) T' rfl Y'
  exact ⟨t2, stp t2 a1, b1⟩
/-- a world: what was there, with the object that is being made at c, and what has been made behind it -/
def ob (w0 : List AE) (c ci : Nat) (fs : List Value) (tl : List AE) : List AE := w0.set c (.inl (ci, fs)) ++ tl
theorem ob_len {w0 : List AE} {c ci : Nat} {fs : List Value} {tl : List AE} : (ob w0 c ci fs tl).length = w0.length + tl.length := by
  unfold ob; rw [List.length_append, List.length_set]
theorem ob_self {w0 : List AE} {c ci : Nat} {fs : List Value} {tl : List AE} (hc : c < w0.length) : (ob w0 c ci fs tl)[c]? = some (.inl (ci, fs)) := by
  unfold ob
  rw [List.getElem?_append_left (by rw [List.length_set]; exact hc), List.getElem?_set_self hc]
theorem ob_put {w0 : List AE} {c ci : Nat} {fs fs' : List Value} {tl : List AE} (hc : c < w0.length) : (ob w0 c ci fs tl).set c (.inl (ci, fs')) = ob w0 c ci fs' tl := by
  unfold ob
  rw [List.set_append_left _ _ (by rw [List.length_set]; exact hc), List.set_set]
theorem ob_push {w0 : List AE} {c ci : Nat} {fs : List Value} {tl : List AE} {a : AE} : ob w0 c ci fs tl ++ [a] = ob w0 c ci fs (tl ++ [a]) := by
  unfold ob; rw [List.append_assoc]
theorem ob_get {w0 : List AE} {c ci K : Nat} {fs : List Value} {tl : List AE} : (ob w0 c ci fs tl)[w0.length + K]? = tl[K]? := by
  unfold ob
  rw [List.getElem?_append_right (by rw [List.length_set]; omega), List.length_set, Nat.add_sub_cancel_left]
theorem ob_set {w0 : List AE} {c ci K : Nat} {fs : List Value} {tl : List AE} {a : AE} : (ob w0 c ci fs tl).set (w0.length + K) a = ob w0 c ci fs (tl.set K a) := by
  unfold ob
  rw [List.set_append_right _ _ (by rw [List.length_set]; omega), List.length_set, Nat.add_sub_cancel_left]
theorem ob_ob {w0 : List AE} {c ci ci' K : Nat} {fs fs' : List Value} {tl tl2 : List AE} : ob (ob w0 c ci fs tl) (w0.length + K) ci' fs' tl2 = ob w0 c ci fs (tl.set K (.inl (ci', fs')) ++ tl2) := by
  rw [ob, ob_set]
  unfold ob
  rw [List.append_assoc]
theorem ob_start {w0 : List AE} {c ci : Nat} {fs : List Value} (h : w0[c]? = some (.inl (ci, fs))) : w0 = ob w0 c ci fs [] := by
  unfold ob
  rw [List.append_nil]
  apply List.ext_getElem?
  intro i
  by_cases e : c = i
  · subst e
    rw [List.getElem?_set_self (List.getElem?_eq_some_iff.mp h).1, h]
  · rw [List.getElem?_set_ne e]
variable {w0 tl : List AE} {c ci : Nat} {fs : List Value}
theorem o_put {idx j : Nat} {v : Value} (ty : FieldType) (fs' : List Value) (hf : FPn mt.1.cls idx ci j ty) (hi : mt.1.name = "<init>") (hc : c < w0.length) (hj : j < fs.length) (hn : ∀ (b0 : Nat) (ta : Nat → Nat), narrow ty (cv b0 ta v) = cv b0 ta v) (hft : ∀ (b0 : Nat) (ta : Nat → Nat), fits ty (cv b0 ta v) = true) (hc0 : c < 1000) (hd : Dc mt pc (.putfield idx) 3 n) (hfs : fs.set j v = fs') (k : Wn X mt d n ls st nc ns (ob w0 c ci fs' tl) E) : Wn X mt d pc ls (v :: .ref c :: st) nc ns (ob w0 c ci fs tl) E := by
  subst hfs
  exact n_put ty hf hi (ob_self hc) hj hn hft hc0 hd (Wn.eqW (ob_put hc) k)
theorem o_newi {N K nc' ns' : Nat} {v : Int32} (tl' : List AE) (h0 : ¬ v < 0) (hv : v.toNatClampNeg = N) (hN : N ≤ 1000) (h1 : nc' + 1 ≤ nc) (h2 : ns' + N ≤ ns) (hK : tl.length = K) (hlt : w0.length + K < 1000) (hd : Dc mt pc (.newarray .int) 2 n) (htl : tl ++ [.inr (0, N, .inl (fun _ => 0))] = tl') (k : Wn X mt d n ls (.ref (w0.length + K) :: st) nc' ns' (ob w0 c ci fs tl') E) : Wn X mt d pc ls (.int v :: st) nc ns (ob w0 c ci fs tl) E := by
  subst htl hK
  refine n_newi h0 hv hN h1 h2 (by rw [ob_len]; exact hlt) hd (Wn.eqW ob_push ?_)
  rw [ob_len]
  exact k
theorem o_newb {N K nc' ns' : Nat} {v : Int32} (tl' : List AE) (h0 : ¬ v < 0) (hv : v.toNatClampNeg = N) (hN : N ≤ 1000) (h1 : nc' + 1 ≤ nc) (h2 : ns' + N ≤ ns) (hK : tl.length = K) (hlt : w0.length + K < 1000) (hd : Dc mt pc (.newarray .byte) 2 n) (htl : tl ++ [.inr (1, N, .inl (fun _ => 0))] = tl') (k : Wn X mt d n ls (.ref (w0.length + K) :: st) nc' ns' (ob w0 c ci fs tl') E) : Wn X mt d pc ls (.int v :: st) nc ns (ob w0 c ci fs tl) E := by
  subst htl hK
  refine n_newb h0 hv hN h1 h2 (by rw [ob_len]; exact hlt) hd (Wn.eqW ob_push ?_)
  rw [ob_len]
  exact k
theorem o_newl {N K nc' ns' : Nat} {v : Int32} (tl' : List AE) (h0 : ¬ v < 0) (hv : v.toNatClampNeg = N) (hN : N ≤ 1000) (h1 : nc' + 1 ≤ nc) (h2 : ns' + N ≤ ns) (hK : tl.length = K) (hlt : w0.length + K < 1000) (hd : Dc mt pc (.newarray .long) 2 n) (htl : tl ++ [.inr (2, N, .inr (.inl (fun _ => 0)))] = tl') (k : Wn X mt d n ls (.ref (w0.length + K) :: st) nc' ns' (ob w0 c ci fs tl') E) : Wn X mt d pc ls (.int v :: st) nc ns (ob w0 c ci fs tl) E := by
  subst htl hK
  refine n_newl h0 hv hN h1 h2 (by rw [ob_len]; exact hlt) hd (Wn.eqW ob_push ?_)
  rw [ob_len]
  exact k
theorem o_newq {idx t N K nc' ns' : Nat} {C0 : String} {v : Int32} (tl' : List AE) (ht : ∀ cA : Nat → ClassId, (tyl cA)[t]? = some (cA t, .object C0)) (hao : ∀ (X : Nat × (Nat → Int32)) (D : va_G) (cA : Nat → ClassId) (ta : Nat → Nat) (b0 : Nat) (U : State), Kn X D cA ta b0 U → va_AO C0 U) (hcl : Cond.classLink mt.1.cls idx C0 ∈ gtb) (h0 : ¬ v < 0) (hv : v.toNatClampNeg = N) (hN : N ≤ 1000) (h1 : nc' + 1 ≤ nc) (h2 : ns' + N ≤ ns) (hK : tl.length = K) (hlt : w0.length + K < 1000) (hd : Dc mt pc (.anewarray idx) 3 n) (htl : tl ++ [.inr (t, N, .inr (.inr (fun _ => none)))] = tl') (k : Wn X mt d n ls (.ref (w0.length + K) :: st) nc' ns' (ob w0 c ci fs tl') E) : Wn X mt d pc ls (.int v :: st) nc ns (ob w0 c ci fs tl) E := by
  subst htl hK
  refine n_newq ht hao hcl h0 hv hN h1 h2 (by rw [ob_len]; exact hlt) hd (Wn.eqW ob_push ?_)
  rw [ob_len]
  exact k
theorem o_new {idx ci' N K nc' ns' : Nat} {C0 : String} {T : u_T} {t0 : Nat → FieldType} (fs0 : List Value) (tl' : List AE) (hk : kl[ci']? = some (C0, T, N)) (huw : ∀ w ∈ u_ws C0 T N, w ∈ gtb) (hty : ∀ k, k < N → parseFieldDescriptor (T k).2.2.1 = some (t0 k)) (hcl : Cond.classLink mt.1.cls idx C0 ∈ gtb) (hin : Cond.instantiable C0 N ∈ gtb) (hini : Cond.initialized C0 ∈ gtb) (hfs : ∀ (b0 : Nat) (ta : Nat → Nat) (j : Nat), j < N → defaultValue (t0 j) = vp_V (fs0.map (cv b0 ta)) j) (h1 : nc' + 1 ≤ nc) (h2 : ns' + N ≤ ns) (hK : tl.length = K) (hlt : w0.length + K < 1000) (hd : Dc mt pc (.new idx) 3 n) (htl : tl ++ [.inl (ci', fs0)] = tl') (k : Wn X mt d n ls (.ref (w0.length + K) :: st) nc' ns' (ob w0 c ci fs tl') E) : Wn X mt d pc ls st nc ns (ob w0 c ci fs tl) E := by
  subst htl hK
  refine n_new fs0 hk huw hty hcl hin hini hfs h1 h2 (by rw [ob_len]; exact hlt) hd (Wn.eqW ob_push ?_)
  rw [ob_len]
  exact k
theorem o_iast {K N : Nat} {f : Nat → Int32} {i v : Int32} (tl' : List AE) (hg : tl[K]? = some (.inr (0, N, .inl f))) (hi : vp_in i N) (hc0 : w0.length + K < 1000) (hd : Dc mt pc .iastore 1 n) (htl : tl.set K (.inr (0, N, .inl (upd f i.toNatClampNeg v))) = tl') (k : Wn X mt d n ls st nc ns (ob w0 c ci fs tl') E) : Wn X mt d pc ls (.int v :: .int i :: .ref (w0.length + K) :: st) nc ns (ob w0 c ci fs tl) E := by
  subst htl
  exact n_iast (ob_get.trans hg) hi hc0 hd (Wn.eqW ob_set k)
theorem o_aast {K K1 t N ci' : Nat} {h : Nat → Option Nat} {i : Int32} {r : vw_C} {vs : List Value} (tl' : List AE) (hg : tl[K]? = some (.inr (t, N, .inr (.inr h)))) (ht : ∀ cA : Nat → ClassId, (tyl cA)[t]? = some (cA t, .object r.1)) (hv : tl[K1]? = some (.inl (ci', vs))) (hk : kl[ci']? = some r) (hi : vp_in i N) (hc0 : w0.length + K < 1000) (hc1 : w0.length + K1 < 1000) (hd : Dc mt pc .aastore 1 n) (htl : tl.set K (.inr (t, N, .inr (.inr (upq h i.toNatClampNeg (w0.length + K1))))) = tl') (k : Wn X mt d n ls st nc ns (ob w0 c ci fs tl') E) : Wn X mt d pc ls (.ref (w0.length + K1) :: .int i :: .ref (w0.length + K) :: st) nc ns (ob w0 c ci fs tl) E := by
  subst htl
  exact n_aast (ob_get.trans hg) ht (ob_get.trans hv) hk hi hc0 hc1 hd (Wn.eqW ob_set k)
theorem o_getR {idx j r : Nat} (hf : FL mt.1.cls idx ci j) (hc : c < w0.length) (hj : fs[j]? = some (.ref r)) (hc0 : c < 1000) (hr : r < 1000) (hd : Dc mt pc (.getfield idx) 3 n) (k : Wn X mt d n ls (.ref r :: st) nc ns (ob w0 c ci fs tl) E) : Wn X mt d pc ls (.ref c :: st) nc ns (ob w0 c ci fs tl) E := n_getR hf (ob_self hc) hj hc0 hr hd k
theorem o_call {y : MT} {idx d' mc ms K nc' ns' ci' : Nat} {fs' : List Value} {tl2 : List AE} (tl' : List AE) (hM : Nt y d' mc ms (w0.length + K) (ob w0 c ci fs tl) (ob (ob w0 c ci fs tl) (w0.length + K) ci' fs' tl2)) (hf : LkI mt.1.cls idx y) (hd : Dc mt pc (.invokespecial idx) 3 n) (hc0 : w0.length + K < 1000) (hw : (st.map fun v => v.category).sum ≤ 8) (hdd : d' < d) (h1 : nc' + mc ≤ nc) (h2 : ns' + ms ≤ ns) (hmc : tl2.length = mc) (htl : tl.set K (.inl (ci', fs')) ++ tl2 = tl') (k : Wn X mt d n ls st nc' ns' (ob w0 c ci fs tl') E) : Wn X mt d pc ls (.ref (w0.length + K) :: st) nc ns (ob w0 c ci fs tl) E := by
  subst htl hmc
  exact n_call hM hf hd hc0 hw hdd h1 h2 ob_len.symm (Wn.eqW ob_ob k)
end NCalls
