/-! the reference: act -/
def mdP (w k n a x : Int32) (s : DS) : Int32 × DS := if w = 0 then saysP k n x s else if w = 1 then lrnP k n a x s else if w = 2 then shrP k n a x s else telP k n a x s
set_option maxHeartbeats 400000 in
theorem c_M_act_no {j m : Nat} (hm : m ≤ 4) (s w x : Int32) (μ : Me) (hct : μ.1 83 0 = nI m) (hat : μ.1 82 1 = nI 0) (hP : ¬ ((0 ≤ s ∧ s < 4) ∧ 0 ≤ w ∧ w ≤ 3) ∨ (∀ j, s = nI j → j < 4 → ¬ (0 ≤ knS3 (μ.1 83) m (μ.1 96 j) (μ.1 97 j) ∧ knS3 (μ.1 83) m (μ.1 96 j) (μ.1 97 j) ≤ 5))) : CtI m_M_act 8 [.ref 82, .int s, .int w, .int x] μ 0 (uI μ 82 35 0) := by
  refine Ct.of (ls := [.ref 82, .int s, .int w, .int x, flr, flr]) rfl (Nat.le_of_ble_eq_true rfl) rfl (fun X => ?_)
  by_cases hs : 0 ≤ s ∧ s < 4
  · obtain ⟨j, hj, rfl⟩ := f4 hs
    have ck := c_M_kindOn hj hm (uI μ 82 35 0) hct hat
    have hP' : ¬ (0 ≤ w ∧ w ≤ 3) ∨ ¬ (0 ≤ knS3 (μ.1 83) m (μ.1 96 j) (μ.1 97 j) ∧ knS3 (μ.1 83) m (μ.1 96 j) (μ.1 97 j) ≤ 5) := by
      rcases hP with h | h
      · exact Or.inl (fun z => h ⟨hs, z⟩)
      · exact Or.inr (h j rfl hj)
    refine r_aload_n 0 d_M_act_0 rfl rfl ?_
    refine r_iconst 0 d_M_act_1 rfl ?_
    refine r_putI fp_M_323 (by first | with_reducible assumption | rfl) rfl d_M_act_2 ?_
    refine r_iload_n 1 d_M_act_5 rfl rfl ?_
    refine r_callSi (c_M_isShelf _ _) lk_M_308 d_M_act_6 rfl rfl (Nat.le_of_ble_eq_true rfl) (by decide) ?_
    refine r_if_eq d_M_act_9 (fun h9 => absurd h9 (bzy hs)) (fun h9 => ?_)
    refine r_aload_n 0 d_M_act_12 rfl rfl ?_
    refine r_iload_n 1 d_M_act_13 rfl rfl ?_
    refine r_callVi ck lk_M_317 (by first | with_reducible assumption | rfl) d_M_act_14 rfl rfl (Nat.le_of_ble_eq_true rfl) (by decide) ?_
    refine r_goto d_M_act_17 ?_
    refine r_istore 4 [_, _, _, _, _, _] d_M_act_21 (by decide) rfl ?_
    refine r_iload_n 2 d_M_act_23 rfl rfl ?_
    refine r_iconst 0 d_M_act_24 rfl ?_
    refine r_iconst 3 d_M_act_25 rfl ?_
    refine r_callSi (c_M_in _ _ _ _) lk_M_72 d_M_act_26 rfl rfl (Nat.le_of_ble_eq_true rfl) (by decide) ?_
    refine r_if_eq d_M_act_29 (fun h29 => ?_) (fun h29 => ?_)
    · refine r_iconst 0 d_M_act_42 rfl ?_
      refine r_iret .int d_M_act_43 rfl rfl ?_
      exact ⟨rfl, rfl⟩
    · refine r_iload 4 d_M_act_32 rfl ?_
      refine r_iconst 0 d_M_act_34 rfl ?_
      refine r_iconst 5 d_M_act_35 rfl ?_
      refine r_callSi (c_M_in _ _ _ _) lk_M_72 d_M_act_36 rfl rfl (Nat.le_of_ble_eq_true rfl) (by decide) ?_
      refine r_if_ne d_M_act_39 (fun h39 => ?_) (fun h39 => ?_)
      · exact absurd (bz_p h39) (hP'.resolve_left (fun z => z (bz_p h29)))
      · refine r_iconst 0 d_M_act_42 rfl ?_
        refine r_iret .int d_M_act_43 rfl rfl ?_
        exact ⟨rfl, rfl⟩
  · skip
    refine r_aload_n 0 d_M_act_0 rfl rfl ?_
    refine r_iconst 0 d_M_act_1 rfl ?_
    refine r_putI fp_M_323 (by first | with_reducible assumption | rfl) rfl d_M_act_2 ?_
    refine r_iload_n 1 d_M_act_5 rfl rfl ?_
    refine r_callSi (c_M_isShelf _ _) lk_M_308 d_M_act_6 rfl rfl (Nat.le_of_ble_eq_true rfl) (by decide) ?_
    refine r_if_eq d_M_act_9 (fun h9 => ?_) (fun h9 => absurd (bzn hs) h9)
    refine r_iconst (-1) d_M_act_20 rfl ?_
    refine r_istore 4 [_, _, _, _, _, _] d_M_act_21 (by decide) rfl ?_
    refine r_iload_n 2 d_M_act_23 rfl rfl ?_
    refine r_iconst 0 d_M_act_24 rfl ?_
    refine r_iconst 3 d_M_act_25 rfl ?_
    refine r_callSi (c_M_in _ _ _ _) lk_M_72 d_M_act_26 rfl rfl (Nat.le_of_ble_eq_true rfl) (by decide) ?_
    refine r_if_eq d_M_act_29 (fun h29 => ?_) (fun h29 => ?_)
    · refine r_iconst 0 d_M_act_42 rfl ?_
      refine r_iret .int d_M_act_43 rfl rfl ?_
      exact ⟨rfl, rfl⟩
    · refine r_iload 4 d_M_act_32 rfl ?_
      refine r_iconst 0 d_M_act_34 rfl ?_
      refine r_iconst 5 d_M_act_35 rfl ?_
      refine r_callSi (c_M_in _ _ _ _) lk_M_72 d_M_act_36 rfl rfl (Nat.le_of_ble_eq_true rfl) (by decide) ?_
      refine r_if_ne d_M_act_39 (fun h39 => absurd (bzn (by decide)) h39) (fun h39 => ?_)
      refine r_iconst 0 d_M_act_42 rfl ?_
      refine r_iret .int d_M_act_43 rfl rfl ?_
      exact ⟨rfl, rfl⟩
def acN (μ : Me) (k n a : Int32) : Me := uI (uI (uI μ 82 31 k) 82 32 n) 82 33 a
theorem acN_dN {μ : Me} {k n a : Int32} : uI (uI (uI (uI (uI μ 82 35 0) 82 31 k) 82 32 n) 82 33 a) 82 36 0 = dN (acN μ k n a) (false, 0, μ.1 99) := by
  refine Me_ext (fun c' x => ?_) (fun _ _ => rfl)
  by_cases h1 : c' = 82
  · subst h1
    by_cases h6 : x = 36
    · subst h6; rw [uI_at, dN_36]; rfl
    · rw [uI_off h6]
      by_cases h5 : x = 35
      · subst h5; rw [uI_off (by decide), uI_off (by decide), uI_off (by decide), uI_at, dN_35]; rfl
      · rw [dN_lo h5 h6, acN]
        by_cases h33 : x = 33
        · subst h33; rw [uI_at, uI_at]
        · rw [uI_off h33, uI_off h33]
          by_cases h32 : x = 32
          · subst h32; rw [uI_at, uI_at]
          · rw [uI_off h32, uI_off h32]
            by_cases h31 : x = 31
            · subst h31; rw [uI_at, uI_at]
            · rw [uI_off h31, uI_off h31, uI_off h5]
  · rw [uI_ne h1, uI_ne h1, uI_ne h1, uI_ne h1, uI_ne h1]
    by_cases h2 : c' = 99
    · subst h2; rw [dN_99]
    · rw [dN_ne h1 h2, acN, uI_ne h1, uI_ne h1, uI_ne h1]
set_option maxHeartbeats 400000 in
theorem c_M_act {j m q : Nat} (hj : j < 4) (hm : m ≤ 4) (hq : q < m) (w x : Int32) (hw : 0 ≤ w ∧ w ≤ 3) (μ : Me) (hct : μ.1 83 0 = nI m) (hat : μ.1 82 1 = nI 0) (hh : μ.1 96 j = 0) (hn : μ.1 97 j = nI q) (hk : 0 ≤ kM (μ.1 83) 0 q ∧ kM (μ.1 83) 0 q ≤ 5) : CtI m_M_act 8 [.ref 82, .int (nI j), .int w, .int x] μ (if (mdP w (kM (μ.1 83) 0 q) (nI q) (aM (μ.1 83) 0 q) x (false, 0, μ.1 99)).2.1 = true then -15 else (mdP w (kM (μ.1 83) 0 q) (nI q) (aM (μ.1 83) 0 q) x (false, 0, μ.1 99)).1) (dN (acN μ (kM (μ.1 83) 0 q) (nI q) (aM (μ.1 83) 0 q)) (mdP w (kM (μ.1 83) 0 q) (nI q) (aM (μ.1 83) 0 q) x (false, 0, μ.1 99)).2) := by
  refine Ct.of (ls := [.ref 82, .int (nI j), .int w, .int x, flr, flr]) rfl (Nat.le_of_ble_eq_true rfl) rfl (fun X => ?_)
  have kn : knS3 (μ.1 83) m (μ.1 96 j) (μ.1 97 j) = kM (μ.1 83) 0 q := by rw [knS3, if_pos hh, hn, if_pos (nIb hq hm), cl36 (show q < 4 by omega) (by decide)]
  have ck := c_M_kindOn hj hm (uI μ 82 35 0) hct hat
  have e1 : knS3 ((uI μ 82 35 0).1 83) m ((uI μ 82 35 0).1 96 j) ((uI μ 82 35 0).1 97 j) = kM (μ.1 83) 0 q := kn
  rw [e1] at ck
  have ca := fun ν h => c_M_aOf (A := 0) (l := q) (by decide) (show q < 4 by omega) ν h
  generalize hkk : kM (μ.1 83) 0 q = k at *
  generalize haa : aM (μ.1 83) 0 q = a at *
  have ek : (acN μ k (nI q) a).1 82 31 = k := by rw [acN, uI_off (by decide), uI_off (by decide), uI_at]
  have en : (acN μ k (nI q) a).1 82 32 = nI q := by rw [acN, uI_off (by decide), uI_at]
  have ea : (acN μ k (nI q) a).1 82 33 = a := by rw [acN, uI_at]
  refine r_aload_n 0 d_M_act_0 rfl rfl ?_
  refine r_iconst 0 d_M_act_1 rfl ?_
  refine r_putI fp_M_323 (by first | with_reducible assumption | rfl) rfl d_M_act_2 ?_
  refine r_iload_n 1 d_M_act_5 rfl rfl ?_
  refine r_callSi (c_M_isShelf _ _) lk_M_308 d_M_act_6 rfl rfl (Nat.le_of_ble_eq_true rfl) (by decide) ?_
  refine r_if_eq d_M_act_9 (fun h9 => absurd h9 (bzy (f4_yes hj))) (fun h9 => ?_)
  refine r_aload_n 0 d_M_act_12 rfl rfl ?_
  refine r_iload_n 1 d_M_act_13 rfl rfl ?_
  refine r_callVi ck lk_M_317 (by first | with_reducible assumption | rfl) d_M_act_14 rfl rfl (Nat.le_of_ble_eq_true rfl) (by decide) ?_
  refine r_goto d_M_act_17 ?_
  refine r_istore 4 [_, _, _, _, _, _] d_M_act_21 (by decide) rfl ?_
  refine r_iload_n 2 d_M_act_23 rfl rfl ?_
  refine r_iconst 0 d_M_act_24 rfl ?_
  refine r_iconst 3 d_M_act_25 rfl ?_
  refine r_callSi (c_M_in _ _ _ _) lk_M_72 d_M_act_26 rfl rfl (Nat.le_of_ble_eq_true rfl) (by decide) ?_
  refine r_if_eq d_M_act_29 (fun h29 => absurd h29 (bzy hw)) (fun h29 => ?_)
  refine r_iload 4 d_M_act_32 rfl ?_
  refine r_iconst 0 d_M_act_34 rfl ?_
  refine r_iconst 5 d_M_act_35 rfl ?_
  refine r_callSi (c_M_in _ _ _ _) lk_M_72 d_M_act_36 rfl rfl (Nat.le_of_ble_eq_true rfl) (by decide) ?_
  refine r_if_ne d_M_act_39 (fun h39 => ?_) (fun h39 => absurd h39 (bzy hk))
  refine r_aload_n 0 d_M_act_44 rfl rfl ?_
  refine r_iload 4 d_M_act_45 rfl ?_
  refine r_putI fp_M_335 (by first | with_reducible assumption | rfl) rfl d_M_act_47 ?_
  refine r_aload_n 0 d_M_act_50 rfl rfl ?_
  refine r_aload_n 0 d_M_act_51 rfl rfl ?_
  refine r_getR fl_M_57 (by first | with_reducible assumption | rfl) rfl d_M_act_52 ?_
  refine r_iload_n 1 d_M_act_55 rfl rfl ?_
  refine r_ialdN (by first | with_reducible assumption | rfl) (by first | with_reducible assumption | omega | decide | assumption) d_M_act_56 ?_
  rw [uI_ne (show 97 ≠ 82 by decide), uI_ne (show 97 ≠ 82 by decide), hn]
  refine r_putI fp_M_329 (by first | with_reducible assumption | rfl) rfl d_M_act_57 ?_
  refine r_aload_n 0 d_M_act_60 rfl rfl ?_
  refine r_aload_n 0 d_M_act_61 rfl rfl ?_
  refine r_aload_n 0 d_M_act_62 rfl rfl ?_
  refine r_getI fl_M_329 (by first | with_reducible assumption | rfl) rfl d_M_act_63 ?_
  rw [uI_at]
  refine r_callVi (ca _ hat) lk_M_121 (by first | with_reducible assumption | rfl) d_M_act_66 rfl rfl (Nat.le_of_ble_eq_true rfl) (by decide) ?_
  rw [uI_ne (show 83 ≠ 82 by decide), uI_ne (show 83 ≠ 82 by decide), uI_ne (show 83 ≠ 82 by decide), haa]
  refine r_putI fp_M_347 (by first | with_reducible assumption | rfl) rfl d_M_act_69 ?_
  refine r_aload_n 0 d_M_act_72 rfl rfl ?_
  refine r_iconst 0 d_M_act_73 rfl ?_
  refine r_putZ fp_M_350 (by first | with_reducible assumption | rfl) rfl (by first | exact Or.inl rfl | exact Or.inr rfl | assumption) d_M_act_74 ?_
  rw [acN_dN]
  refine r_iload_n 2 d_M_act_77 rfl rfl ?_
  refine r_if_ne d_M_act_78 (fun h78 => ?_) (fun h78 => ?_)
  · refine r_iload_n 2 d_M_act_89 rfl rfl ?_
    refine r_iconst 1 d_M_act_90 rfl ?_
    refine r_icmp_ne d_M_act_91 (fun h91 => ?_) (fun h91 => ?_)
    · refine r_iload_n 2 d_M_act_102 rfl rfl ?_
      refine r_iconst 2 d_M_act_103 rfl ?_
      refine r_icmp_ne d_M_act_104 (fun h104 => ?_) (fun h104 => ?_)
      · refine r_aload_n 0 d_M_act_115 rfl rfl ?_
        refine r_iload_n 3 d_M_act_116 rfl rfl ?_
        refine r_callVi (c_M_tellsIt ek en ea _ _ (Nat.zero_le _)) lk_M_365 (by first | with_reducible assumption | rfl) d_M_act_117 rfl rfl (Nat.le_of_ble_eq_true rfl) (by decide) ?_
        refine r_istore 5 [_, _, _, _, _, _] d_M_act_120 (by decide) rfl ?_
        refine r_aload_n 0 d_M_act_122 rfl rfl ?_
        refine r_getI fl_M_350 (by first | with_reducible assumption | rfl) rfl d_M_act_123 ?_
        rw [dN_36]
        refine r_if_eq d_M_act_126 (fun h126 => ?_) (fun h126 => ?_)
        · refine r_iload 5 d_M_act_134 rfl ?_
          refine r_iret .int d_M_act_136 rfl rfl ?_
          first
            | (have z : w = 0 := h78; have y := bz_np h126; rw [mdP, if_pos z, if_neg y]; exact ⟨rfl, rfl⟩)
            | (have z : w = 0 := h78; have y := bz_p h126; rw [mdP, if_pos z, if_pos y]; exact ⟨rfl, rfl⟩)
            | (have z : w = 1 := h91; have y := bz_np h126; rw [mdP, if_neg h78, if_pos z, if_neg y]; exact ⟨rfl, rfl⟩)
            | (have z : w = 1 := h91; have y := bz_p h126; rw [mdP, if_neg h78, if_pos z, if_pos y]; exact ⟨rfl, rfl⟩)
            | (have z : w = 2 := h104; have y := bz_np h126; rw [mdP, if_neg h78, if_neg h91, if_pos z, if_neg y]; exact ⟨rfl, rfl⟩)
            | (have z : w = 2 := h104; have y := bz_p h126; rw [mdP, if_neg h78, if_neg h91, if_pos z, if_pos y]; exact ⟨rfl, rfl⟩)
            | (have z : ¬ w = 2 := h104; have y := bz_np h126; rw [mdP, if_neg h78, if_neg h91, if_neg z, if_neg y]; exact ⟨rfl, rfl⟩)
            | (have z : ¬ w = 2 := h104; have y := bz_p h126; rw [mdP, if_neg h78, if_neg h91, if_neg z, if_pos y]; exact ⟨rfl, rfl⟩)
        · refine r_bipush (-15) d_M_act_129 (by decide) ?_
          refine r_goto d_M_act_131 ?_
          refine r_iret .int d_M_act_136 rfl rfl ?_
          first
            | (have z : w = 0 := h78; have y := bz_np h126; rw [mdP, if_pos z, if_neg y]; exact ⟨rfl, rfl⟩)
            | (have z : w = 0 := h78; have y := bz_p h126; rw [mdP, if_pos z, if_pos y]; exact ⟨rfl, rfl⟩)
            | (have z : w = 1 := h91; have y := bz_np h126; rw [mdP, if_neg h78, if_pos z, if_neg y]; exact ⟨rfl, rfl⟩)
            | (have z : w = 1 := h91; have y := bz_p h126; rw [mdP, if_neg h78, if_pos z, if_pos y]; exact ⟨rfl, rfl⟩)
            | (have z : w = 2 := h104; have y := bz_np h126; rw [mdP, if_neg h78, if_neg h91, if_pos z, if_neg y]; exact ⟨rfl, rfl⟩)
            | (have z : w = 2 := h104; have y := bz_p h126; rw [mdP, if_neg h78, if_neg h91, if_pos z, if_pos y]; exact ⟨rfl, rfl⟩)
            | (have z : ¬ w = 2 := h104; have y := bz_np h126; rw [mdP, if_neg h78, if_neg h91, if_neg z, if_neg y]; exact ⟨rfl, rfl⟩)
            | (have z : ¬ w = 2 := h104; have y := bz_p h126; rw [mdP, if_neg h78, if_neg h91, if_neg z, if_pos y]; exact ⟨rfl, rfl⟩)
      · refine r_aload_n 0 d_M_act_107 rfl rfl ?_
        refine r_iload_n 3 d_M_act_108 rfl rfl ?_
        refine r_callVi (c_M_sharesIt ek en ea _ _ (Nat.zero_le _)) lk_M_362 (by first | with_reducible assumption | rfl) d_M_act_109 rfl rfl (Nat.le_of_ble_eq_true rfl) (by decide) ?_
        refine r_goto d_M_act_112 ?_
        refine r_istore 5 [_, _, _, _, _, _] d_M_act_120 (by decide) rfl ?_
        refine r_aload_n 0 d_M_act_122 rfl rfl ?_
        refine r_getI fl_M_350 (by first | with_reducible assumption | rfl) rfl d_M_act_123 ?_
        rw [dN_36]
        refine r_if_eq d_M_act_126 (fun h126 => ?_) (fun h126 => ?_)
        · refine r_iload 5 d_M_act_134 rfl ?_
          refine r_iret .int d_M_act_136 rfl rfl ?_
          first
            | (have z : w = 0 := h78; have y := bz_np h126; rw [mdP, if_pos z, if_neg y]; exact ⟨rfl, rfl⟩)
            | (have z : w = 0 := h78; have y := bz_p h126; rw [mdP, if_pos z, if_pos y]; exact ⟨rfl, rfl⟩)
            | (have z : w = 1 := h91; have y := bz_np h126; rw [mdP, if_neg h78, if_pos z, if_neg y]; exact ⟨rfl, rfl⟩)
            | (have z : w = 1 := h91; have y := bz_p h126; rw [mdP, if_neg h78, if_pos z, if_pos y]; exact ⟨rfl, rfl⟩)
            | (have z : w = 2 := h104; have y := bz_np h126; rw [mdP, if_neg h78, if_neg h91, if_pos z, if_neg y]; exact ⟨rfl, rfl⟩)
            | (have z : w = 2 := h104; have y := bz_p h126; rw [mdP, if_neg h78, if_neg h91, if_pos z, if_pos y]; exact ⟨rfl, rfl⟩)
            | (have z : ¬ w = 2 := h104; have y := bz_np h126; rw [mdP, if_neg h78, if_neg h91, if_neg z, if_neg y]; exact ⟨rfl, rfl⟩)
            | (have z : ¬ w = 2 := h104; have y := bz_p h126; rw [mdP, if_neg h78, if_neg h91, if_neg z, if_pos y]; exact ⟨rfl, rfl⟩)
        · refine r_bipush (-15) d_M_act_129 (by decide) ?_
          refine r_goto d_M_act_131 ?_
          refine r_iret .int d_M_act_136 rfl rfl ?_
          first
            | (have z : w = 0 := h78; have y := bz_np h126; rw [mdP, if_pos z, if_neg y]; exact ⟨rfl, rfl⟩)
            | (have z : w = 0 := h78; have y := bz_p h126; rw [mdP, if_pos z, if_pos y]; exact ⟨rfl, rfl⟩)
            | (have z : w = 1 := h91; have y := bz_np h126; rw [mdP, if_neg h78, if_pos z, if_neg y]; exact ⟨rfl, rfl⟩)
            | (have z : w = 1 := h91; have y := bz_p h126; rw [mdP, if_neg h78, if_pos z, if_pos y]; exact ⟨rfl, rfl⟩)
            | (have z : w = 2 := h104; have y := bz_np h126; rw [mdP, if_neg h78, if_neg h91, if_pos z, if_neg y]; exact ⟨rfl, rfl⟩)
            | (have z : w = 2 := h104; have y := bz_p h126; rw [mdP, if_neg h78, if_neg h91, if_pos z, if_pos y]; exact ⟨rfl, rfl⟩)
            | (have z : ¬ w = 2 := h104; have y := bz_np h126; rw [mdP, if_neg h78, if_neg h91, if_neg z, if_neg y]; exact ⟨rfl, rfl⟩)
            | (have z : ¬ w = 2 := h104; have y := bz_p h126; rw [mdP, if_neg h78, if_neg h91, if_neg z, if_pos y]; exact ⟨rfl, rfl⟩)
    · refine r_aload_n 0 d_M_act_94 rfl rfl ?_
      refine r_iload_n 3 d_M_act_95 rfl rfl ?_
      refine r_callVi (c_M_learnsIt ek en ea _ _ (Nat.zero_le _)) lk_M_356 (by first | with_reducible assumption | rfl) d_M_act_96 rfl rfl (Nat.le_of_ble_eq_true rfl) (by decide) ?_
      refine r_goto d_M_act_99 ?_
      refine r_istore 5 [_, _, _, _, _, _] d_M_act_120 (by decide) rfl ?_
      refine r_aload_n 0 d_M_act_122 rfl rfl ?_
      refine r_getI fl_M_350 (by first | with_reducible assumption | rfl) rfl d_M_act_123 ?_
      rw [dN_36]
      refine r_if_eq d_M_act_126 (fun h126 => ?_) (fun h126 => ?_)
      · refine r_iload 5 d_M_act_134 rfl ?_
        refine r_iret .int d_M_act_136 rfl rfl ?_
        first
          | (have z : w = 0 := h78; have y := bz_np h126; rw [mdP, if_pos z, if_neg y]; exact ⟨rfl, rfl⟩)
          | (have z : w = 0 := h78; have y := bz_p h126; rw [mdP, if_pos z, if_pos y]; exact ⟨rfl, rfl⟩)
          | (have z : w = 1 := h91; have y := bz_np h126; rw [mdP, if_neg h78, if_pos z, if_neg y]; exact ⟨rfl, rfl⟩)
          | (have z : w = 1 := h91; have y := bz_p h126; rw [mdP, if_neg h78, if_pos z, if_pos y]; exact ⟨rfl, rfl⟩)
          | (have z : w = 2 := h104; have y := bz_np h126; rw [mdP, if_neg h78, if_neg h91, if_pos z, if_neg y]; exact ⟨rfl, rfl⟩)
          | (have z : w = 2 := h104; have y := bz_p h126; rw [mdP, if_neg h78, if_neg h91, if_pos z, if_pos y]; exact ⟨rfl, rfl⟩)
          | (have z : ¬ w = 2 := h104; have y := bz_np h126; rw [mdP, if_neg h78, if_neg h91, if_neg z, if_neg y]; exact ⟨rfl, rfl⟩)
          | (have z : ¬ w = 2 := h104; have y := bz_p h126; rw [mdP, if_neg h78, if_neg h91, if_neg z, if_pos y]; exact ⟨rfl, rfl⟩)
      · refine r_bipush (-15) d_M_act_129 (by decide) ?_
        refine r_goto d_M_act_131 ?_
        refine r_iret .int d_M_act_136 rfl rfl ?_
        first
          | (have z : w = 0 := h78; have y := bz_np h126; rw [mdP, if_pos z, if_neg y]; exact ⟨rfl, rfl⟩)
          | (have z : w = 0 := h78; have y := bz_p h126; rw [mdP, if_pos z, if_pos y]; exact ⟨rfl, rfl⟩)
          | (have z : w = 1 := h91; have y := bz_np h126; rw [mdP, if_neg h78, if_pos z, if_neg y]; exact ⟨rfl, rfl⟩)
          | (have z : w = 1 := h91; have y := bz_p h126; rw [mdP, if_neg h78, if_pos z, if_pos y]; exact ⟨rfl, rfl⟩)
          | (have z : w = 2 := h104; have y := bz_np h126; rw [mdP, if_neg h78, if_neg h91, if_pos z, if_neg y]; exact ⟨rfl, rfl⟩)
          | (have z : w = 2 := h104; have y := bz_p h126; rw [mdP, if_neg h78, if_neg h91, if_pos z, if_pos y]; exact ⟨rfl, rfl⟩)
          | (have z : ¬ w = 2 := h104; have y := bz_np h126; rw [mdP, if_neg h78, if_neg h91, if_neg z, if_neg y]; exact ⟨rfl, rfl⟩)
          | (have z : ¬ w = 2 := h104; have y := bz_p h126; rw [mdP, if_neg h78, if_neg h91, if_neg z, if_pos y]; exact ⟨rfl, rfl⟩)
  · refine r_aload_n 0 d_M_act_81 rfl rfl ?_
    refine r_iload_n 3 d_M_act_82 rfl rfl ?_
    refine r_callVi (c_M_saysIt ek en _ _ (Nat.zero_le _)) lk_M_341 (by first | with_reducible assumption | rfl) d_M_act_83 rfl rfl (Nat.le_of_ble_eq_true rfl) (by decide) ?_
    refine r_goto d_M_act_86 ?_
    refine r_istore 5 [_, _, _, _, _, _] d_M_act_120 (by decide) rfl ?_
    refine r_aload_n 0 d_M_act_122 rfl rfl ?_
    refine r_getI fl_M_350 (by first | with_reducible assumption | rfl) rfl d_M_act_123 ?_
    rw [dN_36]
    refine r_if_eq d_M_act_126 (fun h126 => ?_) (fun h126 => ?_)
    · refine r_iload 5 d_M_act_134 rfl ?_
      refine r_iret .int d_M_act_136 rfl rfl ?_
      first
        | (have z : w = 0 := h78; have y := bz_np h126; rw [mdP, if_pos z, if_neg y]; exact ⟨rfl, rfl⟩)
        | (have z : w = 0 := h78; have y := bz_p h126; rw [mdP, if_pos z, if_pos y]; exact ⟨rfl, rfl⟩)
        | (have z : w = 1 := h91; have y := bz_np h126; rw [mdP, if_neg h78, if_pos z, if_neg y]; exact ⟨rfl, rfl⟩)
        | (have z : w = 1 := h91; have y := bz_p h126; rw [mdP, if_neg h78, if_pos z, if_pos y]; exact ⟨rfl, rfl⟩)
        | (have z : w = 2 := h104; have y := bz_np h126; rw [mdP, if_neg h78, if_neg h91, if_pos z, if_neg y]; exact ⟨rfl, rfl⟩)
        | (have z : w = 2 := h104; have y := bz_p h126; rw [mdP, if_neg h78, if_neg h91, if_pos z, if_pos y]; exact ⟨rfl, rfl⟩)
        | (have z : ¬ w = 2 := h104; have y := bz_np h126; rw [mdP, if_neg h78, if_neg h91, if_neg z, if_neg y]; exact ⟨rfl, rfl⟩)
        | (have z : ¬ w = 2 := h104; have y := bz_p h126; rw [mdP, if_neg h78, if_neg h91, if_neg z, if_pos y]; exact ⟨rfl, rfl⟩)
    · refine r_bipush (-15) d_M_act_129 (by decide) ?_
      refine r_goto d_M_act_131 ?_
      refine r_iret .int d_M_act_136 rfl rfl ?_
      first
        | (have z : w = 0 := h78; have y := bz_np h126; rw [mdP, if_pos z, if_neg y]; exact ⟨rfl, rfl⟩)
        | (have z : w = 0 := h78; have y := bz_p h126; rw [mdP, if_pos z, if_pos y]; exact ⟨rfl, rfl⟩)
        | (have z : w = 1 := h91; have y := bz_np h126; rw [mdP, if_neg h78, if_pos z, if_neg y]; exact ⟨rfl, rfl⟩)
        | (have z : w = 1 := h91; have y := bz_p h126; rw [mdP, if_neg h78, if_pos z, if_pos y]; exact ⟨rfl, rfl⟩)
        | (have z : w = 2 := h104; have y := bz_np h126; rw [mdP, if_neg h78, if_neg h91, if_pos z, if_neg y]; exact ⟨rfl, rfl⟩)
        | (have z : w = 2 := h104; have y := bz_p h126; rw [mdP, if_neg h78, if_neg h91, if_pos z, if_pos y]; exact ⟨rfl, rfl⟩)
        | (have z : ¬ w = 2 := h104; have y := bz_np h126; rw [mdP, if_neg h78, if_neg h91, if_neg z, if_neg y]; exact ⟨rfl, rfl⟩)
        | (have z : ¬ w = 2 := h104; have y := bz_p h126; rw [mdP, if_neg h78, if_neg h91, if_neg z, if_pos y]; exact ⟨rfl, rfl⟩)
/-! the bodies run: class and reference alike -/
theorem beg1 {s : DS} {b : Int32} (h : s.1 = false) : (begD s b).1 = false := by rw [begD_1, h]
theorem rn_s {k : Nat} {n a : Int32} {f b : Nat} {x : Int32} {s : DS} (h : s.1 = false) : rn k n a (f + 1) b x s = rnB k n a (rn k n a f) b x s := by
  show (if s.1 = true then some (0, s) else rnB k n a (rn k n a f) b x s) = _
  rw [if_neg (by rw [h]; decide)]
theorem rn_10 {k : Nat} {n a : Int32} {f : Nat} {x : Int32} {s : DS} (h : s.1 = false) : rn k n a (f + 1) 10 x s = some (pSay n x s) := by rw [rn_s h]; rfl
theorem rn_30 {k : Nat} {n a : Int32} {f : Nat} {x : Int32} {s : DS} (h : s.1 = false) : rn k n a (f + 2) 30 x s = some (rSay n x s) := by
  rw [rn_s h]
  show (rn k n a (f + 1) 10 x (begD s 30)).bind _ = _
  rw [rn_10 (beg1 h)]; rfl
theorem rn_say {k : Nat} (hk : k < 6) {n a : Int32} {f : Nat} {x : Int32} {s : DS} (h : s.1 = false) : rn k n a (f + 3) (bd 0 k) x s = some (saysP (nI k) n x s) := by
  have h6 : k = 0 ∨ k = 1 ∨ k = 2 ∨ k = 3 ∨ k = 4 ∨ k = 5 := by omega
  rcases h6 with rfl | rfl | rfl | rfl | rfl | rfl
  · exact rn_10 h
  · exact rn_10 h
  · exact rn_30 h
  · show rn 3 n a (f + 3) 40 x s = _
    rw [rn_s h]
    show (rn 3 n a (f + 2) 30 x (begD s 40)).bind _ = _
    rw [rn_30 (beg1 h)]; rfl
  · show rn 4 n a (f + 3) 51 x s = _
    rw [rn_s h]
    show (rn 4 n a (f + 2) 10 x (begD s 51)).bind _ = _
    rw [rn_10 (beg1 h)]; rfl
  · exact rn_10 h
theorem pSay_1 {n x : Int32} {s : DS} (h : s.1 = false) : (pSay n x s).2.1 = false := beg1 h
theorem rSay_1 {n x : Int32} {s : DS} (h : s.1 = false) : (rSay n x s).2.1 = false := pSay_1 (n := n) (x := x) (beg1 h)
theorem saysP_1 {k n x : Int32} {s : DS} (h : s.1 = false) : (saysP k n x s).2.1 = false := by
  unfold saysP
  split
  · exact rSay_1 h
  · split
    · exact rSay_1 (n := n) (x := x) (beg1 h)
    · split
      · exact pSay_1 (n := n) (x := x) (beg1 h)
      · exact pSay_1 h
theorem rn_11 {k : Nat} (hk : k < 6) {n a : Int32} {f : Nat} {x : Int32} {s : DS} (h : s.1 = false) : rn k n a (f + 4) 11 x s = some (pLrn (nI k) n x s) := by
  rw [rn_s h]
  show (rn k n a (f + 3) (bd 0 k) x (begD s 11)).bind _ = _
  rw [rn_say hk (beg1 h)]; rfl
theorem pLrn_1 {k n x : Int32} {s : DS} (h : s.1 = false) : (pLrn k n x s).2.1 = false := saysP_1 (k := k) (n := n) (x := x) (beg1 h)
theorem rn_lrn {k : Nat} (hk : k < 6) {n a : Int32} {f : Nat} {x : Int32} {s : DS} (h : s.1 = false) : rn k n a (f + 5) (bd 1 k) x s = some (lrnP (nI k) n a x s) := by
  have h6 : k = 0 ∨ k = 1 ∨ k = 2 ∨ k = 3 ∨ k = 4 ∨ k = 5 := by omega
  rcases h6 with rfl | rfl | rfl | rfl | rfl | rfl
  · exact rn_11 (by decide) h
  · show rn 1 n a (f + 5) 20 x s = _
    rw [rn_s h]
    show (rn 1 n a (f + 4) 11 x (begD s 20)).bind _ = _
    rw [rn_11 (by decide) (beg1 h)]; rfl
  · exact rn_11 (by decide) h
  · show rn 3 n a (f + 5) 41 x s = _
    rw [rn_s h]
    show (rn 3 n a (f + 4) 11 x (begD s 41)).bind _ = _
    rw [rn_11 (by decide) (beg1 h)]
    show (rn 3 n a (f + 4) (bd 0 3) n (pLrn (nI 3) n x (begD s 41)).2).bind _ = _
    rw [rn_say (by decide) (pLrn_1 (beg1 h))]; rfl
  · show rn 4 n a (f + 5) 20 x s = _
    rw [rn_s h]
    show (rn 4 n a (f + 4) 11 x (begD s 20)).bind _ = _
    rw [rn_11 (by decide) (beg1 h)]; rfl
  · exact rn_11 (by decide) h
theorem lrnP_1 {k n a x : Int32} {s : DS} (h : s.1 = false) : (lrnP k n a x s).2.1 = false := by
  unfold lrnP
  split
  · exact pLrn_1 (k := k) (n := n) (x := x) (beg1 h)
  · split
    · exact saysP_1 (pLrn_1 (beg1 h))
    · exact pLrn_1 h
theorem rn_12 {k : Nat} {n a : Int32} {f : Nat} {x : Int32} {s : DS} (h : s.1 = false) : rn k n a (f + 1) 12 x s = some (pShr n a x s) := by
  rw [rn_s h, pShr]
  show some (if a - n = 0 then 0 else x / (a - n), (decide (a - n = 0), (begD s 12).2)) = _
  by_cases e : a = n
  · rw [if_pos e, if_pos (by rw [e]; grind), decide_eq_true (by rw [e]; grind)]
  · have e2 : ¬ a - n = 0 := fun z => e (by grind)
    rw [if_neg e, if_neg e2, decide_eq_false e2]
    have : begD s 12 = (false, (begD s 12).2) := by rw [← beg1 (b := 12) h]
    rw [← this]
/-- alike but for a value that nobody sees -/
def alk (r : Option (Int32 × DS)) (q : Int32 × DS) : Prop := ∃ v, r = some (v, q.2) ∧ (q.2.1 = false → v = q.1)
theorem rn_shr {k : Nat} (hk : k < 6) {n a : Int32} {f : Nat} {x : Int32} {s : DS} (h : s.1 = false) : alk (rn k n a (f + 5) (bd 2 k) x s) (shrP (nI k) n a x s) := by
  have h6 : k = 0 ∨ k = 1 ∨ k = 2 ∨ k = 3 ∨ k = 4 ∨ k = 5 := by omega
  rcases h6 with rfl | rfl | rfl | rfl | rfl | rfl
  · exact ⟨_, rn_12 h, fun _ => rfl⟩
  · exact ⟨_, rn_12 h, fun _ => rfl⟩
  · exact ⟨_, rn_12 h, fun _ => rfl⟩
  · exact ⟨_, rn_12 h, fun _ => rfl⟩
  · refine ⟨_, ?_, fun _ => rfl⟩
    show rn 4 n a (f + 5) 50 x s = _
    rw [rn_s h]
    show (rn 4 n a (f + 4) 12 (x + 2) (begD s 50)).bind _ = _
    rw [rn_12 (beg1 h)]; rfl
  · have e : rn 5 n a (f + 5) (bd 2 5) x s = (rn 5 n a (f + 4) (bd 0 5) a (pShr n a x (begD s 61)).2).bind (fun q => some ((pShr n a x (begD s 61)).1 + q.1, q.2)) := by
      show rn 5 n a (f + 5) 61 x s = _
      rw [rn_s h]
      show (rn 5 n a (f + 4) 12 x (begD s 61)).bind _ = _
      rw [rn_12 (beg1 h)]; rfl
    rw [alk, e, shrP, if_neg (show ¬ nI 5 = 4 by decide), if_pos (show nI 5 = 5 from rfl)]
    by_cases hp : (pShr n a x (begD s 61)).2.1 = true
    · rw [if_pos hp]
      refine ⟨(pShr n a x (begD s 61)).1 + 0, ?_, fun z => absurd (hp.symm.trans z) (by decide)⟩
      show (if (pShr n a x (begD s 61)).2.1 = true then some ((0 : Int32), (pShr n a x (begD s 61)).2) else _).bind _ = _
      rw [if_pos hp]; rfl
    · rw [if_neg hp]
      have hp' : (pShr n a x (begD s 61)).2.1 = false := by
        cases hh : (pShr n a x (begD s 61)).2.1 with
        | true => exact absurd hh hp
        | false => rfl
      refine ⟨_, ?_, fun _ => rfl⟩
      rw [rn_say (by decide) hp']; rfl
theorem rn_13 {k : Nat} (hk : k < 6) {n a : Int32} {f : Nat} {x : Int32} {s : DS} (h : s.1 = false) : rn k n a (f + 6) 13 x s = some (pTel (nI k) n a x s) := by
  rw [rn_s h]
  show (rn k n a (f + 5) (bd 1 k) x (begD s 13)).bind _ = _
  rw [rn_lrn hk (beg1 h)]; rfl
theorem pTel_1 {k n a x : Int32} {s : DS} (h : s.1 = false) : (pTel k n a x s).2.1 = false := lrnP_1 (k := k) (n := n) (a := a) (x := x) (beg1 h)
theorem rn_31 {k : Nat} (hk : k < 6) {n a : Int32} {f : Nat} {x : Int32} {s : DS} (h : s.1 = false) (q : Int32 × DS) (hq : q = ((pTel (nI k) n a x (begD s 31)).1 + (shrP (nI k) n a n (pTel (nI k) n a x (begD s 31)).2).1, (shrP (nI k) n a n (pTel (nI k) n a x (begD s 31)).2).2)) : alk (rn k n a (f + 7) 31 x s) q := by
  have e : rn k n a (f + 7) 31 x s = (rn k n a (f + 6) (bd 2 k) n (pTel (nI k) n a x (begD s 31)).2).bind (fun q => some ((pTel (nI k) n a x (begD s 31)).1 + q.1, q.2)) := by
    rw [rn_s h]
    show (rn k n a (f + 6) 13 x (begD s 31)).bind _ = _
    rw [rn_13 hk (beg1 h)]; rfl
  obtain ⟨v, e1, e2⟩ := rn_shr (f := f + 1) hk (n := n) (a := a) (x := n) (s := (pTel (nI k) n a x (begD s 31)).2) (pTel_1 (beg1 h))
  rw [alk, e, e1, hq]
  exact ⟨_, rfl, fun z => by rw [e2 z]⟩
theorem rn_tel {k : Nat} (hk : k < 6) {n a : Int32} {f : Nat} {x : Int32} {s : DS} (h : s.1 = false) : alk (rn k n a (f + 7) (bd 3 k) x s) (telP (nI k) n a x s) := by
  have h6 : k = 0 ∨ k = 1 ∨ k = 2 ∨ k = 3 ∨ k = 4 ∨ k = 5 := by omega
  rcases h6 with rfl | rfl | rfl | rfl | rfl | rfl
  · exact ⟨_, rn_13 (by decide) h, fun _ => rfl⟩
  · exact ⟨_, rn_13 (by decide) h, fun _ => rfl⟩
  · exact rn_31 (by decide) h _ rfl
  · exact rn_31 (by decide) h _ rfl
  · exact ⟨_, rn_13 (by decide) h, fun _ => rfl⟩
  · refine ⟨_, ?_, fun _ => rfl⟩
    show rn 5 n a (f + 7) 60 x s = _
    rw [rn_s h]
    show (rn 5 n a (f + 6) 13 x (begD s 60)).bind _ = _
    rw [rn_13 (by decide) (beg1 h)]; rfl
theorem rn_md {k w : Nat} (hk : k < 6) (hw : w < 4) {n a : Int32} {x : Int32} {s : DS} (h : s.1 = false) : alk (rn k n a 8 (bd w k) x s) (mdP (nI w) (nI k) n a x s) := by
  have h4 : w = 0 ∨ w = 1 ∨ w = 2 ∨ w = 3 := by omega
  rcases h4 with rfl | rfl | rfl | rfl
  · exact ⟨_, rn_say (f := 5) hk h, fun _ => rfl⟩
  · exact ⟨_, rn_lrn (f := 3) hk h, fun _ => rfl⟩
  · exact rn_shr (f := 3) hk h
  · exact rn_tel (f := 1) hk h
