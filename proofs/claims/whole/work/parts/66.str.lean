/-! string constants of the class: length, charAt (the JDK's own methods, as the launch has them) -/
def m_JPre_checkIndex : MT := (⟨"jdk/internal/util/Preconditions", "checkIndex", "(IILjava/util/function/BiFunction;)I"⟩, prog_20_method_11_code, 3, (some .int))
def LkVS (own : String) (idx : Nat) (y : MT) (na : Nat) : Prop := Cond.methodLink own idx y.1 ∈ gtb ∧ Cond.instanceMethod y.1 ∈ gtb ∧ Cond.selects y.1.cls y.1 y.1 ∈ gtb ∧ Cond.initialized y.1.cls ∈ gtb ∧ Cond.code y.1 y.2.1 y.2.2.1 y.2.2.2 ∈ gtb ∧ y.2.2.1 ≤ 45 ∧ (y.1.cls ≠ "java/lang/invoke/MethodHandle" ∧ y.1.cls ≠ "java/lang/invoke/VarHandle" ∧ (parseMethodDescriptor y.1.desc).map (fun d => d.parameters.length) = some na) ∧ y.1.cls = "java/lang/String"
set_option maxRecDepth 100000 in
theorem fw_sval : Cond.fieldLink "java/lang/String" 9 "java/lang/String" "value" "[B" ∈ gtb := gi 1460 rfl rfl
set_option maxRecDepth 100000 in
theorem fw_scod : Cond.fieldLink "java/lang/String" 15 "java/lang/String" "coder" "B" ∈ gtb := gi 1461 rfl rfl
section Rules6
variable {X : Nat × (Nat → Int32)} {mt : MT} {d pc n : Nat} {ls st : List Value} {μ : Me} {Q : Option Value → Me → Prop}
theorem r_sval {q : Nat} (hq : q < 4) (hm : mt.1.cls = "java/lang/String") (hd : Dc mt pc (.getfield 9) 3 n) (k : Wa X mt d n ls (.ref (2100 + q) :: st) μ Q) : Wa X mt d pc ls (.ref (2000 + q) :: st) μ Q := by
  intro p l e R s m args below meth c1 D cA ta b0 H locs lsA cells slots Fin C hP hS hl hF
  obtain ⟨hd, rfl⟩ := hd
  have k1 := k p l e R s m args below meth c1 D cA ta b0 H locs lsA cells slots Fin C hP hS hl hF
  rw [List.map_cons, cv_hi (show 1000 ≤ 2100 + q by omega)] at k1
  rw [List.map_cons, cv_hi (show 1000 ≤ 2000 + q by omega)]
  obtain ⟨-, -, -, -, -, h6, -⟩ := C.2.2.2.2.2.1
  exact vk_getf (own := "java/lang/String") (ref := "java/lang/String") C.1 C.2.1 (h6.1 q hq).2.2.1 hS (by rw [← hm]; exact C.2.2.2.1) (C.2.2.2.2.1 _ fw_sval) (fun _ h => h) hd k1
theorem r_scod {q : Nat} (hq : q < 4) (hm : mt.1.cls = "java/lang/String") (hd : Dc mt pc (.getfield 15) 3 n) (k : Wa X mt d n ls (.int 0 :: st) μ Q) : Wa X mt d pc ls (.ref (2000 + q) :: st) μ Q := by
  intro p l e R s m args below meth c1 D cA ta b0 H locs lsA cells slots Fin C hP hS hl hF
  obtain ⟨hd, rfl⟩ := hd
  have k1 := k p l e R s m args below meth c1 D cA ta b0 H locs lsA cells slots Fin C hP hS hl hF
  rw [List.map_cons, cv_hi (show 1000 ≤ 2000 + q by omega)]
  obtain ⟨-, -, -, -, -, h6, -⟩ := C.2.2.2.2.2.1
  exact vk_getf (own := "java/lang/String") (ref := "java/lang/String") C.1 C.2.1 (h6.1 q hq).2.1 hS (by rw [← hm]; exact C.2.2.2.1) (C.2.2.2.2.1 _ fw_scod) (fun _ h => h) hd k1
theorem r_strlen {q : Nat} (hq : q < 4) (hd : Dc mt pc .arraylength 1 n) (k : Wa X mt d n ls (.int (Int32.ofNat (ssl.getD q 0)) :: st) μ Q) : Wa X mt d pc ls (.ref (2100 + q) :: st) μ Q := by
  intro p l e R s m args below meth c1 D cA ta b0 H locs lsA cells slots Fin C hP hS hl hF
  obtain ⟨hd, rfl⟩ := hd
  have k1 := k p l e R s m args below meth c1 D cA ta b0 H locs lsA cells slots Fin C hP hS hl hF
  rw [List.map_cons, cv_hi (show 1000 ≤ 2100 + q by omega)]
  obtain ⟨-, -, -, -, -, h6, -⟩ := C.2.2.2.2.2.1
  exact va_tlen C.1 C.2.1 (h6.1 q hq).2.2.2 hS rfl hd k1
theorem r_strb {q : Nat} {i : Int32} (hq : q < 4) (hi : vp_in i (ssl.getD q 0)) (hd : Dc mt pc .baload 1 n) (k : Wa X mt d n ls (.int ((ssb.getD q []).getD i.toNatClampNeg 0) :: st) μ Q) : Wa X mt d pc ls (.int i :: .ref (2100 + q) :: st) μ Q := by
  intro p l e R s m args below meth c1 D cA ta b0 H locs lsA cells slots Fin C hP hS hl hF
  obtain ⟨hd, rfl⟩ := hd
  have k1 := k p l e R s m args below meth c1 D cA ta b0 H locs lsA cells slots Fin C hP hS hl hF
  rw [List.map_cons, List.map_cons, cv_hi (show 1000 ≤ 2100 + q by omega)]
  obtain ⟨-, -, -, -, -, h6, -⟩ := C.2.2.2.2.2.1
  exact va_tb C.1 C.2.1 (h6.1 q hq).2.2.2 hS hi rfl hd k1
theorem r_csg (hm : mt.1.cls = "java/lang/String") (hd : Dc mt pc (.getstatic 38) 3 n) (k : Wa X mt d n ls (.int 1 :: st) μ Q) : Wa X mt d pc ls st μ Q := by
  intro p l e R s m args below meth c1 D cA ta b0 H locs lsA cells slots Fin C hP hS hl hF
  obtain ⟨hd, rfl⟩ := hd
  have k1 := k p l e R s m args below meth c1 D cA ta b0 H locs lsA cells slots Fin C hP hS hl hF
  obtain ⟨-, -, -, -, -, -, h7, -⟩ := C.2.2.2.2.2.1
  exact va_gets (own := "java/lang/String") (ref := "java/lang/String") C.1 C.2.1 h7.1 hS (by rw [← hm]; exact C.2.2.2.1) (C.2.2.2.2.1 _ (gi 360 rfl rfl)) (fun _ h => h) hd k1
theorem r_sio (hm : mt.1.cls = "java/lang/String") (hd : Dc mt pc (.getstatic 1053) 3 n) (k : Wa X mt d n ls (.ref 3001 :: st) μ Q) (kN : Wa X mt d n ls (.null :: st) μ Q) : Wa X mt d pc ls st μ Q := by
  intro p l e R s m args below meth c1 D cA ta b0 H locs lsA cells slots Fin C hP hS hl hF
  obtain ⟨hd, rfl⟩ := hd
  have k1 := k p l e R s m args below meth c1 D cA ta b0 H locs lsA cells slots Fin C hP hS hl hF
  rw [List.map_cons, cv_hi (show 1000 ≤ 3001 by decide)] at k1
  have k2 := kN p l e R s m args below meth c1 D cA ta b0 H locs lsA cells slots Fin C hP hS hl hF
  obtain ⟨-, -, -, -, -, -, h7, -⟩ := C.2.2.2.2.2.1
  rcases h7.2 with h | h
  · exact va_gets (own := "java/lang/String") (ref := "jdk/internal/util/Preconditions") C.1 C.2.1 h hS (by rw [← hm]; exact C.2.2.2.1) (C.2.2.2.2.1 _ (gi 376 rfl rfl)) (fun _ h => h) hd k2
  · exact va_gets (own := "java/lang/String") (ref := "jdk/internal/util/Preconditions") C.1 C.2.1 h hS (by rw [← hm]; exact C.2.2.2.1) (C.2.2.2.2.1 _ (gi 376 rfl rfl)) (fun _ h => h) hd k1
theorem r_i2c {x : Int32} (hd : Dc mt pc .i2c 1 n) (k : Wa X mt d n ls (.int (x.toUInt32 % 65536).toInt32 :: st) μ Q) : Wa X mt d pc ls (.int x :: st) μ Q := by
  intro p l e R s m args below meth c D cA ta b0 H locs lsA cells slots Fin C hP hS hl hF
  obtain ⟨hd, rfl⟩ := hd
  exact lv_i2c C.1 C.2.1 hd rfl (k p l e R s m args below meth c D cA ta b0 H locs lsA cells slots Fin C hP hS hl hF)
theorem r_callVS {y : MT} {idx na d' b : Nat} {As st0 : List Value} {post : Option Value → Me → Prop} (hM : Ct y d' (.ref (2000 + b) :: As) μ post) (hf : LkVS mt.1.cls idx y na) (hs : b < 4) (hd : Dc mt pc (.invokevirtual idx) 3 n) (hst : st0 = As.reverse ++ .ref (2000 + b) :: st) (hn : As.length = na) (hw : (st.map fun v => v.category).sum ≤ 8) (hdd : d' < d) (k : ∀ r μ', post r μ' → Wa X mt d n ls (r.toList ++ st) μ' Q) : Wa X mt d pc ls st0 μ Q := by
  intro p l e R s m args below meth c D cA ta b0 H locs lsA cells slots Fin C hP hS hl hF
  obtain ⟨hd, rfl⟩ := hd
  obtain ⟨f1, f2, f2b, f3, f4, f5, f6, f8⟩ := hf
  obtain ⟨c1, c2, c3, c4, c5, c6, c7, c8, c9, c10⟩ := C
  have hcw := cwV (R := R) (rm := rmD d') (mc := 0) (ms := 0) (bytes := y.2.1) (maxL := y.2.2.1) (ret := y.2.2.2) (ws' := gtb) (C := y.1.cls) na c5 (show GoodIn gtb (wsV mt.1.cls idx y.1.cls y.1 (wsm y)) from fun w hw => by
    rcases List.mem_append.mp hw with h | h
    · simp only [List.mem_cons, List.not_mem_nil, or_false] at h
      rcases h with rfl | rfl | rfl | rfl
      · exact gtb_good _ f1
      · exact gtb_good _ f2
      · exact gtb_good _ f2b
      · exact gtb_good _ f3
    · exact good_wsm f4 w h) rfl rfl rfl ⟨rfl, f6⟩ ⟨by show d' + 1 ≤ R.frames; omega, by show 8 + (y.2.2.1 + 11) + 64 * d' ≤ R.locals; omega⟩
  subst hst
  rw [cvl_rev, List.map_cons, cv_hi (show 1000 ≤ 2000 + b by omega)]
  have hM1 := hM l X D cA ta b0
  refine run_k (va_runV ⟨c1, c2, c3, c4, c5⟩ hM1 hcw ⟨Pcx.blind, ?_, fun U hU hW => ⟨by rw [List.map_cons, cv_hi (show 1000 ≤ 2000 + b by omega)], by rw [hU]; exact hP, c6.move hS hU hW⟩⟩ rfl (by simpa using hn) (hl.1) rfl (lv_room (by rw [cv_cats]; exact hw)) hd ⟨c9, c10⟩) hS ?_
  · rw [f8]
    obtain ⟨-, -, -, -, -, h6, -⟩ := c6
    have hrv := vk_recv (i := b) h6 hs hS
    exact hrv
  · intro r μ' H1 locs1 hp hP1 hS1
    have := k r μ' hp p l e R s m args below meth c D cA ta b0 H1 locs1 lsA cells slots Fin ⟨c1, c2, c3, c4, c5, c6, c7, c8, c9, c10⟩ hP1 hS1 hl hF
    rw [List.map_append] at this
    cases r <;> exact this
theorem r_callVSi {y : MT} {idx na d' b : Nat} {As st0 : List Value} {v : Int32} {μ1 : Me} (hM : CtI y d' (.ref (2000 + b) :: As) μ v μ1) (hf : LkVS mt.1.cls idx y na) (hs : b < 4) (hd : Dc mt pc (.invokevirtual idx) 3 n) (hst : st0 = As.reverse ++ .ref (2000 + b) :: st) (hn : As.length = na) (hw : (st.map fun v => v.category).sum ≤ 8) (hdd : d' < d) (k : Wa X mt d n ls (.int v :: st) μ1 Q) : Wa X mt d pc ls st0 μ Q := r_callVS hM hf hs hd hst hn hw hdd (fun _ _ h => by obtain ⟨rfl, rfl⟩ := h; exact k)
end Rules6
theorem lk_Text_78 : LkVS "SevenEights$Text" 78 m_JString_length 0 := ⟨gi 352 rfl rfl, gi 353 rfl rfl, gi 354 rfl rfl, gi 13 rfl rfl, gi 355 rfl rfl, by decide, ⟨by decide, by decide, by decide +kernel⟩, rfl⟩
theorem lk_Text_82 : LkVS "SevenEights$Text" 82 m_JString_charAt 1 := ⟨gi 362 rfl rfl, gi 363 rfl rfl, gi 364 rfl rfl, gi 13 rfl rfl, gi 365 rfl rfl, by decide, ⟨by decide, by decide, by decide +kernel⟩, rfl⟩
theorem lk_JString_335 : LkVS "java/lang/String" 335 m_JString_coder 0 := ⟨gi 356 rfl rfl, gi 357 rfl rfl, gi 358 rfl rfl, gi 13 rfl rfl, gi 359 rfl rfl, by decide, ⟨by decide, by decide, by decide +kernel⟩, rfl⟩
theorem lk_JString_492 : LkVS "java/lang/String" 492 m_JString_isLatin1 0 := ⟨gi 366 rfl rfl, gi 367 rfl rfl, gi 368 rfl rfl, gi 13 rfl rfl, gi 369 rfl rfl, by decide, ⟨by decide, by decide, by decide +kernel⟩, rfl⟩
theorem lk_JString_495 : LkS "java/lang/String" 495 m_JLatin_charAt 2 := ⟨gi 370 rfl rfl, gi 371 rfl rfl, gi 14 rfl rfl, gi 372 rfl rfl, by decide, ⟨by decide, by decide, by decide +kernel⟩⟩
theorem lk_JLatin_9 : LkS "java/lang/StringLatin1" 9 m_JString_checkIndex 2 := ⟨gi 373 rfl rfl, gi 374 rfl rfl, gi 13 rfl rfl, gi 375 rfl rfl, by decide, ⟨by decide, by decide, by decide +kernel⟩⟩
theorem lk_JString_1059 : LkS "java/lang/String" 1059 m_JPre_checkIndex 3 := ⟨gi 378 rfl rfl, gi 379 rfl rfl, gi 15 rfl rfl, gi 380 rfl rfl, by decide, ⟨by decide, by decide, by decide +kernel⟩⟩
set_option maxHeartbeats 400000 in
theorem c_JString_coder {q : Nat} (hq : q < 4) (μ : Me) : CtI m_JString_coder 0 [.ref (2000 + q)] μ 0 μ := by
  refine Ct.of (ls := [.ref (2000 + q)]) rfl (Nat.le_of_ble_eq_true rfl) rfl (fun X => ?_)
  refine r_csg rfl (n := 3) ⟨by decide +kernel, rfl⟩ ?_
  refine r_if_eq (n := 6) (tgt := 13) ⟨10, by decide +kernel, rfl, by decide⟩ (fun h => absurd h (by decide)) (fun _ => ?_)
  refine r_aload_n 0 (j := 0) (n := 7) ⟨by decide +kernel, rfl⟩ rfl rfl ?_
  refine r_scod hq rfl (n := 10) ⟨by decide +kernel, rfl⟩ ?_
  refine r_goto (n := 13) (tgt := 14) ⟨4, by decide +kernel, rfl, by decide⟩ ?_
  refine r_iret .byte (n := 15) ⟨by decide +kernel, rfl⟩ rfl rfl ?_
  exact ⟨rfl, rfl⟩
set_option maxHeartbeats 400000 in
theorem c_JString_isLatin1 {q : Nat} (hq : q < 4) (μ : Me) : CtI m_JString_isLatin1 0 [.ref (2000 + q)] μ 1 μ := by
  refine Ct.of (ls := [.ref (2000 + q)]) rfl (Nat.le_of_ble_eq_true rfl) rfl (fun X => ?_)
  refine r_csg rfl (n := 3) ⟨by decide +kernel, rfl⟩ ?_
  refine r_if_eq (n := 6) (tgt := 17) ⟨14, by decide +kernel, rfl, by decide⟩ (fun h => absurd h (by decide)) (fun _ => ?_)
  refine r_aload_n 0 (j := 0) (n := 7) ⟨by decide +kernel, rfl⟩ rfl rfl ?_
  refine r_scod hq rfl (n := 10) ⟨by decide +kernel, rfl⟩ ?_
  refine r_if_ne (n := 13) (tgt := 17) ⟨7, by decide +kernel, rfl, by decide⟩ (fun h => absurd rfl h) (fun _ => ?_)
  refine r_iconst 1 (z := 1) (n := 14) ⟨by decide +kernel, rfl⟩ rfl ?_
  refine r_goto (n := 17) (tgt := 18) ⟨4, by decide +kernel, rfl, by decide⟩ ?_
  refine r_iret .boolean (n := 19) ⟨by decide +kernel, rfl⟩ rfl (by decide) ?_
  exact ⟨rfl, rfl⟩
theorem sln_ok : ∀ q : Fin 4, Int32.ofNat (ssl.getD q.val 0) >>> ((0 : Int32) &&& 31) = nI (ssl.getD q.val 0) := by decide
set_option maxHeartbeats 400000 in
theorem c_JString_length {q : Nat} (hq : q < 4) (μ : Me) : CtI m_JString_length 1 [.ref (2000 + q)] μ (nI (ssl.getD q 0)) μ := by
  refine Ct.of (ls := [.ref (2000 + q)]) rfl (Nat.le_of_ble_eq_true rfl) rfl (fun X => ?_)
  refine r_aload_n 0 (j := 0) (n := 1) ⟨by decide +kernel, rfl⟩ rfl rfl ?_
  refine r_sval hq rfl (n := 4) ⟨by decide +kernel, rfl⟩ ?_
  refine r_strlen hq (n := 5) ⟨by decide +kernel, rfl⟩ ?_
  refine r_aload_n 0 (j := 0) (n := 6) ⟨by decide +kernel, rfl⟩ rfl rfl ?_
  refine r_callVSi (c_JString_coder hq _) lk_JString_335 hq (n := 9) ⟨by decide +kernel, rfl⟩ rfl rfl (Nat.le_of_ble_eq_true rfl) (by decide) ?_
  refine r_ishr (n := 10) ⟨by decide +kernel, rfl⟩ ?_
  refine r_iret .int (n := 11) ⟨by decide +kernel, rfl⟩ rfl rfl ?_
  exact ⟨by rw [sln_ok ⟨q, hq⟩], rfl⟩
set_option maxHeartbeats 400000 in
theorem c_JPre_checkIndex {i n : Int32} (h0 : ¬ i < 0) (hn : i < n) (μ : Me) : CtI m_JPre_checkIndex 0 [.int i, .int n, .ref 3001] μ i μ := by
  refine Ct.of (ls := [.int i, .int n, .ref 3001]) rfl (Nat.le_of_ble_eq_true rfl) rfl (fun X => ?_)
  refine r_iload_n 0 (j := 0) (n := 1) ⟨by decide +kernel, rfl⟩ rfl rfl ?_
  refine r_if_lt (n := 4) (tgt := 9) ⟨8, by decide +kernel, rfl, by decide⟩ (fun h => absurd h h0) (fun _ => ?_)
  refine r_iload_n 0 (j := 0) (n := 5) ⟨by decide +kernel, rfl⟩ rfl rfl ?_
  refine r_iload_n 1 (j := 1) (n := 6) ⟨by decide +kernel, rfl⟩ rfl rfl ?_
  refine r_icmp_lt (n := 9) (tgt := 16) ⟨10, by decide +kernel, rfl, by decide⟩ (fun _ => ?_) (fun h => absurd hn h)
  refine r_iload_n 0 (j := 0) (n := 17) ⟨by decide +kernel, rfl⟩ rfl rfl ?_
  refine r_iret .int (n := 18) ⟨by decide +kernel, rfl⟩ rfl rfl ?_
  exact ⟨rfl, rfl⟩
set_option maxHeartbeats 400000 in
theorem c_JPre_checkIndexN {i n : Int32} (h0 : ¬ i < 0) (hn : i < n) (μ : Me) : CtI m_JPre_checkIndex 0 [.int i, .int n, .null] μ i μ := by
  refine Ct.of (ls := [.int i, .int n, .null]) rfl (Nat.le_of_ble_eq_true rfl) rfl (fun X => ?_)
  refine r_iload_n 0 (j := 0) (n := 1) ⟨by decide +kernel, rfl⟩ rfl rfl ?_
  refine r_if_lt (n := 4) (tgt := 9) ⟨8, by decide +kernel, rfl, by decide⟩ (fun h => absurd h h0) (fun _ => ?_)
  refine r_iload_n 0 (j := 0) (n := 5) ⟨by decide +kernel, rfl⟩ rfl rfl ?_
  refine r_iload_n 1 (j := 1) (n := 6) ⟨by decide +kernel, rfl⟩ rfl rfl ?_
  refine r_icmp_lt (n := 9) (tgt := 16) ⟨10, by decide +kernel, rfl, by decide⟩ (fun _ => ?_) (fun h => absurd hn h)
  refine r_iload_n 0 (j := 0) (n := 17) ⟨by decide +kernel, rfl⟩ rfl rfl ?_
  refine r_iret .int (n := 18) ⟨by decide +kernel, rfl⟩ rfl rfl ?_
  exact ⟨rfl, rfl⟩
set_option maxHeartbeats 400000 in
theorem c_JString_checkIndex {i n : Int32} (h0 : ¬ i < 0) (hn : i < n) (μ : Me) : CtV m_JString_checkIndex 1 [.int i, .int n] μ μ := by
  refine Ct.of (ls := [.int i, .int n]) rfl (Nat.le_of_ble_eq_true rfl) rfl (fun X => ?_)
  refine r_iload_n 0 (j := 0) (n := 1) ⟨by decide +kernel, rfl⟩ rfl rfl ?_
  refine r_iload_n 1 (j := 1) (n := 2) ⟨by decide +kernel, rfl⟩ rfl rfl ?_
  refine r_sio rfl (n := 5) ⟨by decide +kernel, rfl⟩ ?_ ?_
  · refine r_callSi (c_JPre_checkIndex h0 hn _) lk_JString_1059 (n := 8) ⟨by decide +kernel, rfl⟩ rfl rfl (Nat.le_of_ble_eq_true rfl) (by decide) ?_
    refine r_pop (n := 9) ⟨by decide +kernel, rfl⟩ rfl ?_
    refine r_ret (n := 10) ⟨by decide +kernel, rfl⟩ rfl ?_
    exact ⟨rfl, rfl⟩
  · refine r_callSi (c_JPre_checkIndexN h0 hn _) lk_JString_1059 (n := 8) ⟨by decide +kernel, rfl⟩ rfl rfl (Nat.le_of_ble_eq_true rfl) (by decide) ?_
    refine r_pop (n := 9) ⟨by decide +kernel, rfl⟩ rfl ?_
    refine r_ret (n := 10) ⟨by decide +kernel, rfl⟩ rfl ?_
    exact ⟨rfl, rfl⟩
/-- the letters -/
def chN (q j : Nat) : Nat := (([[97, 115, 107], [105, 110], [116, 101, 108, 108], [114, 101, 115, 116]] : List (List Nat)).getD q []).getD j 0
theorem ch_ok : ∀ q : Fin 4, ∀ j : Fin 4, j.val < ssl.getD q.val 0 → (((ssb.getD q.val []).getD j.val 0 &&& 255).toUInt32 % 65536).toInt32 = nI (chN q.val j.val) ∧ narrow .char (.int (nI (chN q.val j.val))) = .int (nI (chN q.val j.val)) := by decide
theorem ssl_le : ∀ q : Fin 4, ssl.getD q.val 0 ≤ 4 ∧ 2 ≤ ssl.getD q.val 0 := by decide
set_option maxHeartbeats 400000 in
theorem c_JLatin_charAt {q j : Nat} (hq : q < 4) (hj : j < ssl.getD q 0) (μ : Me) : CtI m_JLatin_charAt 2 [.ref (2100 + q), .int (nI j)] μ (nI (chN q j)) μ := by
  refine Ct.of (ls := [.ref (2100 + q), .int (nI j)]) rfl (Nat.le_of_ble_eq_true rfl) rfl (fun X => ?_)
  have h4 := (ssl_le ⟨q, hq⟩).1
  have hj4 : j < 4 := by have : ssl.getD q 0 ≤ 4 := h4; omega
  obtain ⟨e1, e2⟩ := ch_ok ⟨q, hq⟩ ⟨j, hj4⟩ hj
  refine r_iload_n 1 (j := 1) (n := 1) ⟨by decide +kernel, rfl⟩ rfl rfl ?_
  refine r_aload_n 0 (j := 0) (n := 2) ⟨by decide +kernel, rfl⟩ rfl rfl ?_
  refine r_strlen hq (n := 3) ⟨by decide +kernel, rfl⟩ ?_
  refine r_callSv (c_JString_checkIndex (Int32.not_lt.mpr (nI_pos' (by omega))) (show nI j < nI (ssl.getD q 0) from nI_lt hj (by have : ssl.getD q 0 ≤ 4 := h4; omega)) _) lk_JLatin_9 (n := 6) ⟨by decide +kernel, rfl⟩ rfl rfl (Nat.le_of_ble_eq_true rfl) (by decide) ?_
  refine r_aload_n 0 (j := 0) (n := 7) ⟨by decide +kernel, rfl⟩ rfl rfl ?_
  refine r_iload_n 1 (j := 1) (n := 8) ⟨by decide +kernel, rfl⟩ rfl rfl ?_
  refine r_strb hq (vp_in_nI hj (by have : ssl.getD q 0 ≤ 4 := h4; omega)) (n := 9) ⟨by decide +kernel, rfl⟩ ?_
  rw [cl36 hj4 (by decide)]
  refine r_sipush (255) (z := 255) (n := 12) ⟨by decide +kernel, rfl⟩ (by decide) ?_
  refine r_iand (n := 13) ⟨by decide +kernel, rfl⟩ ?_
  refine r_i2c (n := 14) ⟨by decide +kernel, rfl⟩ ?_
  refine Wa.eqI e1 ?_
  refine r_iret .char (n := 15) ⟨by decide +kernel, rfl⟩ rfl e2 ?_
  exact ⟨rfl, rfl⟩
set_option maxHeartbeats 400000 in
theorem c_JString_charAt {q j : Nat} (hq : q < 4) (hj : j < ssl.getD q 0) (μ : Me) : CtI m_JString_charAt 3 [.ref (2000 + q), .int (nI j)] μ (nI (chN q j)) μ := by
  refine Ct.of (ls := [.ref (2000 + q), .int (nI j)]) rfl (Nat.le_of_ble_eq_true rfl) rfl (fun X => ?_)
  have hj4 : j < 4 := by have : ssl.getD q 0 ≤ 4 := (ssl_le ⟨q, hq⟩).1; omega
  obtain ⟨e1, e2⟩ := ch_ok ⟨q, hq⟩ ⟨j, hj4⟩ hj
  refine r_aload_n 0 (j := 0) (n := 1) ⟨by decide +kernel, rfl⟩ rfl rfl ?_
  refine r_callVSi (c_JString_isLatin1 hq _) lk_JString_492 hq (n := 4) ⟨by decide +kernel, rfl⟩ rfl rfl (Nat.le_of_ble_eq_true rfl) (by decide) ?_
  refine r_if_eq (n := 7) (tgt := 16) ⟨12, by decide +kernel, rfl, by decide⟩ (fun h => absurd h (by decide)) (fun _ => ?_)
  refine r_aload_n 0 (j := 0) (n := 8) ⟨by decide +kernel, rfl⟩ rfl rfl ?_
  refine r_sval hq rfl (n := 11) ⟨by decide +kernel, rfl⟩ ?_
  refine r_iload_n 1 (j := 1) (n := 12) ⟨by decide +kernel, rfl⟩ rfl rfl ?_
  refine r_callSi (c_JLatin_charAt hq hj _) lk_JString_495 (n := 15) ⟨by decide +kernel, rfl⟩ rfl rfl (Nat.le_of_ble_eq_true rfl) (by decide) ?_
  refine r_iret .char (n := 16) ⟨by decide +kernel, rfl⟩ rfl e2 ?_
  exact ⟨rfl, rfl⟩
