set_option maxRecDepth 100000 in
theorem uw_Answer : ∀ w ∈ u_ws R_Answer F_Answer 4, w ∈ gtb := by
  intro w hw
  have h : (u_ws R_Answer F_Answer 4).all (fun w => decide (w ∈ tables_1) && goodWord w) = true := by decide +kernel
  have h1 := List.all_eq_true.mp h w hw
  simp only [Bool.and_eq_true, decide_eq_true_eq] at h1
  exact List.mem_filter.mpr ⟨List.mem_append_right _ h1.1, h1.2⟩
set_option maxRecDepth 100000 in
theorem uw_Doer : ∀ w ∈ u_ws R_Doer F_Doer 6, w ∈ gtb := by
  intro w hw
  have h : (u_ws R_Doer F_Doer 6).all (fun w => decide (w ∈ tables_1) && goodWord w) = true := by decide +kernel
  have h1 := List.all_eq_true.mp h w hw
  simp only [Bool.and_eq_true, decide_eq_true_eq] at h1
  exact List.mem_filter.mpr ⟨List.mem_append_right _ h1.1, h1.2⟩
set_option maxRecDepth 100000 in
theorem uw_Learner : ∀ w ∈ u_ws R_Learner F_Learner 5, w ∈ gtb := by
  intro w hw
  have h : (u_ws R_Learner F_Learner 5).all (fun w => decide (w ∈ tables_1) && goodWord w) = true := by decide +kernel
  have h1 := List.all_eq_true.mp h w hw
  simp only [Bool.and_eq_true, decide_eq_true_eq] at h1
  exact List.mem_filter.mpr ⟨List.mem_append_right _ h1.1, h1.2⟩
set_option maxRecDepth 100000 in
theorem uw_Lesson : ∀ w ∈ u_ws R_Lesson F_Lesson 4, w ∈ gtb := by
  intro w hw
  have h : (u_ws R_Lesson F_Lesson 4).all (fun w => decide (w ∈ tables_1) && goodWord w) = true := by decide +kernel
  have h1 := List.all_eq_true.mp h w hw
  simp only [Bool.and_eq_true, decide_eq_true_eq] at h1
  exact List.mem_filter.mpr ⟨List.mem_append_right _ h1.1, h1.2⟩
set_option maxRecDepth 100000 in
theorem uw_Plan : ∀ w ∈ u_ws R_Plan F_Plan 5, w ∈ gtb := by
  intro w hw
  have h : (u_ws R_Plan F_Plan 5).all (fun w => decide (w ∈ tables_1) && goodWord w) = true := by decide +kernel
  have h1 := List.all_eq_true.mp h w hw
  simp only [Bool.and_eq_true, decide_eq_true_eq] at h1
  exact List.mem_filter.mpr ⟨List.mem_append_right _ h1.1, h1.2⟩
set_option maxRecDepth 100000 in
theorem uw_Rows : ∀ w ∈ u_ws R_Rows F_Rows 2, w ∈ gtb := by
  intro w hw
  have h : (u_ws R_Rows F_Rows 2).all (fun w => decide (w ∈ tables_1) && goodWord w) = true := by decide +kernel
  have h1 := List.all_eq_true.mp h w hw
  simp only [Bool.and_eq_true, decide_eq_true_eq] at h1
  exact List.mem_filter.mpr ⟨List.mem_append_right _ h1.1, h1.2⟩
set_option maxRecDepth 100000 in
theorem uw_School : ∀ w ∈ u_ws R_School F_School 6, w ∈ gtb := by
  intro w hw
  have h : (u_ws R_School F_School 6).all (fun w => decide (w ∈ tables_1) && goodWord w) = true := by decide +kernel
  have h1 := List.all_eq_true.mp h w hw
  simp only [Bool.and_eq_true, decide_eq_true_eq] at h1
  exact List.mem_filter.mpr ⟨List.mem_append_right _ h1.1, h1.2⟩
set_option maxRecDepth 100000 in
theorem uw_Sheet : ∀ w ∈ u_ws R_Sheet F_Sheet 3, w ∈ gtb := by
  intro w hw
  have h : (u_ws R_Sheet F_Sheet 3).all (fun w => decide (w ∈ tables_1) && goodWord w) = true := by decide +kernel
  have h1 := List.all_eq_true.mp h w hw
  simp only [Bool.and_eq_true, decide_eq_true_eq] at h1
  exact List.mem_filter.mpr ⟨List.mem_append_right _ h1.1, h1.2⟩
set_option maxRecDepth 100000 in
theorem uw_Shelf : ∀ w ∈ u_ws R_Shelf F_Shelf 3, w ∈ gtb := by
  intro w hw
  have h : (u_ws R_Shelf F_Shelf 3).all (fun w => decide (w ∈ tables_1) && goodWord w) = true := by decide +kernel
  have h1 := List.all_eq_true.mp h w hw
  simp only [Bool.and_eq_true, decide_eq_true_eq] at h1
  exact List.mem_filter.mpr ⟨List.mem_append_right _ h1.1, h1.2⟩
set_option maxRecDepth 100000 in
theorem uw_Text : ∀ w ∈ u_ws R_Text F_Text 3, w ∈ gtb := by
  intro w hw
  have h : (u_ws R_Text F_Text 3).all (fun w => decide (w ∈ tables_1) && goodWord w) = true := by decide +kernel
  have h1 := List.all_eq_true.mp h w hw
  simp only [Bool.and_eq_true, decide_eq_true_eq] at h1
  exact List.mem_filter.mpr ⟨List.mem_append_right _ h1.1, h1.2⟩
set_option maxRecDepth 100000 in
theorem uw_S : ∀ w ∈ u_ws R_S F_S 14, w ∈ gtb := by
  intro w hw
  have h : (u_ws R_S F_S 14).all (fun w => decide (w ∈ tables_1) && goodWord w) = true := by decide +kernel
  have h1 := List.all_eq_true.mp h w hw
  simp only [Bool.and_eq_true, decide_eq_true_eq] at h1
  exact List.mem_filter.mpr ⟨List.mem_append_right _ h1.1, h1.2⟩
set_option maxRecDepth 100000 in
theorem uw_M : ∀ w ∈ u_ws R_M F_M 41, w ∈ gtb := by
  intro w hw
  have h : (u_ws R_M F_M 41).all (fun w => decide (w ∈ tables_1) && goodWord w) = true := by decide +kernel
  have h1 := List.all_eq_true.mp h w hw
  simp only [Bool.and_eq_true, decide_eq_true_eq] at h1
  exact List.mem_filter.mpr ⟨List.mem_append_right _ h1.1, h1.2⟩
set_option maxRecDepth 100000 in
theorem fl_S_12 : FL "SevenEights" 12 10 0 := ⟨R_S, F_S, 14, rfl, by decide, gi 276 rfl rfl, uw_S⟩
set_option maxRecDepth 100000 in
theorem fl_S_16 : FL "SevenEights" 16 10 1 := ⟨R_S, F_S, 14, rfl, by decide, gi 277 rfl rfl, uw_S⟩
set_option maxRecDepth 100000 in
theorem fl_S_19 : FL "SevenEights" 19 10 2 := ⟨R_S, F_S, 14, rfl, by decide, gi 278 rfl rfl, uw_S⟩
set_option maxRecDepth 100000 in
theorem fp_S_19 : FP "SevenEights" 19 10 2 .boolean := ⟨R_S, F_S, 14, t_S, rfl, by decide, gi 278 rfl rfl, uw_S, t_S_ok, n_S, rfl, by decide +kernel⟩
set_option maxRecDepth 100000 in
theorem fl_S_26 : FL "SevenEights" 26 10 3 := ⟨R_S, F_S, 14, rfl, by decide, gi 279 rfl rfl, uw_S⟩
set_option maxRecDepth 100000 in
theorem fl_S_33 : FL "SevenEights" 33 10 4 := ⟨R_S, F_S, 14, rfl, by decide, gi 280 rfl rfl, uw_S⟩
set_option maxRecDepth 100000 in
theorem fl_S_40 : FL "SevenEights" 40 10 5 := ⟨R_S, F_S, 14, rfl, by decide, gi 281 rfl rfl, uw_S⟩
set_option maxRecDepth 100000 in
theorem fl_S_47 : FL "SevenEights" 47 10 6 := ⟨R_S, F_S, 14, rfl, by decide, gi 282 rfl rfl, uw_S⟩
set_option maxRecDepth 100000 in
theorem fl_S_54 : FL "SevenEights" 54 10 7 := ⟨R_S, F_S, 14, rfl, by decide, gi 283 rfl rfl, uw_S⟩
set_option maxRecDepth 100000 in
theorem fl_S_58 : FL "SevenEights" 58 10 8 := ⟨R_S, F_S, 14, rfl, by decide, gi 284 rfl rfl, uw_S⟩
set_option maxRecDepth 100000 in
theorem fl_S_65 : FL "SevenEights" 65 10 9 := ⟨R_S, F_S, 14, rfl, by decide, gi 285 rfl rfl, uw_S⟩
set_option maxRecDepth 100000 in
theorem fl_S_69 : FL "SevenEights" 69 10 10 := ⟨R_S, F_S, 14, rfl, by decide, gi 286 rfl rfl, uw_S⟩
set_option maxRecDepth 100000 in
theorem fl_S_74 : FL "SevenEights" 74 10 11 := ⟨R_S, F_S, 14, rfl, by decide, gi 287 rfl rfl, uw_S⟩
set_option maxRecDepth 100000 in
theorem fl_S_80 : FL "SevenEights" 80 10 12 := ⟨R_S, F_S, 14, rfl, by decide, gi 288 rfl rfl, uw_S⟩
set_option maxRecDepth 100000 in
theorem fl_S_87 : FL "SevenEights" 87 10 13 := ⟨R_S, F_S, 14, rfl, by decide, gi 289 rfl rfl, uw_S⟩
set_option maxRecDepth 100000 in
theorem fl_S_93 : FL "SevenEights" 93 9 1 := ⟨R_Text, F_Text, 3, rfl, by decide, gi 123 rfl rfl, uw_Text⟩
set_option maxRecDepth 100000 in
theorem fp_S_93 : FP "SevenEights" 93 9 1 .int := ⟨R_Text, F_Text, 3, t_Text, rfl, by decide, gi 123 rfl rfl, uw_Text, t_Text_ok, n_Text, rfl, by decide +kernel⟩
set_option maxRecDepth 100000 in
theorem cw_Text_append : Cond.code m_Text_append.1 m_Text_append.2.1 m_Text_append.2.2.1 m_Text_append.2.2.2 ∈ gtb := gi 326 rfl rfl
set_option maxRecDepth 100000 in
theorem lk_S_97 : LkV "SevenEights" 97 m_Text_append 1 9 := ⟨gi 323 rfl rfl, gi 324 rfl rfl, gi 325 rfl rfl, gi 5 rfl rfl, cw_Text_append, by decide, ⟨by decide, by decide, by decide +kernel⟩, _, rfl, rfl⟩
set_option maxRecDepth 100000 in
theorem cw_Text_readInto : Cond.code m_Text_readInto.1 m_Text_readInto.2.1 m_Text_readInto.2.2.1 m_Text_readInto.2.2.2 ∈ gtb := gi 334 rfl rfl
set_option maxRecDepth 100000 in
theorem lk_S_101 : LkV "SevenEights" 101 m_Text_readInto 1 9 := ⟨gi 331 rfl rfl, gi 332 rfl rfl, gi 333 rfl rfl, gi 5 rfl rfl, cw_Text_readInto, by decide, ⟨by decide, by decide, by decide +kernel⟩, _, rfl, rfl⟩
set_option maxRecDepth 100000 in
theorem fl_S_105 : FL "SevenEights" 105 9 2 := ⟨R_Text, F_Text, 3, rfl, by decide, gi 125 rfl rfl, uw_Text⟩
set_option maxRecDepth 100000 in
theorem fl_S_108 : FL "SevenEights" 108 6 5 := ⟨R_School, F_School, 6, rfl, by decide, gi 101 rfl rfl, uw_School⟩
set_option maxRecDepth 100000 in
theorem cw_Lesson_copyFrom : Cond.code m_Lesson_copyFrom.1 m_Lesson_copyFrom.2.1 m_Lesson_copyFrom.2.2.1 m_Lesson_copyFrom.2.2.2 ∈ gtb := gi 443 rfl rfl
set_option maxRecDepth 100000 in
theorem lk_S_111 : LkV "SevenEights" 111 m_Lesson_copyFrom 1 3 := ⟨gi 440 rfl rfl, gi 441 rfl rfl, gi 442 rfl rfl, gi 3 rfl rfl, cw_Lesson_copyFrom, by decide, ⟨by decide, by decide, by decide +kernel⟩, _, rfl, rfl⟩
set_option maxRecDepth 100000 in
theorem fl_S_115 : FL "SevenEights" 115 3 3 := ⟨R_Lesson, F_Lesson, 4, rfl, by decide, gi 50 rfl rfl, uw_Lesson⟩
set_option maxRecDepth 100000 in
theorem cw_S_isWithin : Cond.code m_S_isWithin.1 m_S_isWithin.2.1 m_S_isWithin.2.2.1 m_S_isWithin.2.2.2 ∈ gtb := gi 453 rfl rfl
set_option maxRecDepth 100000 in
theorem lk_S_118 : LkS "SevenEights" 118 m_S_isWithin 2 := ⟨gi 451 rfl rfl, gi 452 rfl rfl, gi 1 rfl rfl, cw_S_isWithin, by decide, ⟨by decide, by decide, by decide +kernel⟩⟩
set_option maxRecDepth 100000 in
theorem fl_S_122 : FL "SevenEights" 122 6 1 := ⟨R_School, F_School, 6, rfl, by decide, gi 93 rfl rfl, uw_School⟩
set_option maxRecDepth 100000 in
theorem cw_School_admit : Cond.code m_School_admit.1 m_School_admit.2.1 m_School_admit.2.2.1 m_School_admit.2.2.2 ∈ gtb := gi 457 rfl rfl
set_option maxRecDepth 100000 in
theorem lk_S_123 : LkV "SevenEights" 123 m_School_admit 2 6 := ⟨gi 454 rfl rfl, gi 455 rfl rfl, gi 456 rfl rfl, gi 2 rfl rfl, cw_School_admit, by decide, ⟨by decide, by decide, by decide +kernel⟩, _, rfl, rfl⟩
set_option maxRecDepth 100000 in
theorem cw_School_learnerAt : Cond.code m_School_learnerAt.1 m_School_learnerAt.2.1 m_School_learnerAt.2.2.1 m_School_learnerAt.2.2.2 ∈ gtb := gi 476 rfl rfl
set_option maxRecDepth 100000 in
theorem lk_S_127 : LkV "SevenEights" 127 m_School_learnerAt 1 6 := ⟨gi 473 rfl rfl, gi 474 rfl rfl, gi 475 rfl rfl, gi 2 rfl rfl, cw_School_learnerAt, by decide, ⟨by decide, by decide, by decide +kernel⟩, _, rfl, rfl⟩
set_option maxRecDepth 100000 in
theorem fl_S_131 : FL "SevenEights" 131 2 0 := ⟨R_Learner, F_Learner, 5, rfl, by decide, gi 68 rfl rfl, uw_Learner⟩
set_option maxRecDepth 100000 in
theorem fl_S_134 : FL "SevenEights" 134 2 1 := ⟨R_Learner, F_Learner, 5, rfl, by decide, gi 70 rfl rfl, uw_Learner⟩
set_option maxRecDepth 100000 in
theorem cw_Learner_firmSum : Cond.code m_Learner_firmSum.1 m_Learner_firmSum.2.1 m_Learner_firmSum.2.2.1 m_Learner_firmSum.2.2.2 ∈ gtb := gi 480 rfl rfl
set_option maxRecDepth 100000 in
theorem lk_S_137 : LkV "SevenEights" 137 m_Learner_firmSum 0 2 := ⟨gi 477 rfl rfl, gi 478 rfl rfl, gi 479 rfl rfl, gi 4 rfl rfl, cw_Learner_firmSum, by decide, ⟨by decide, by decide, by decide +kernel⟩, _, rfl, rfl⟩
set_option maxRecDepth 100000 in
theorem cw_S_pairAt : Cond.code m_S_pairAt.1 m_S_pairAt.2.1 m_S_pairAt.2.2.1 m_S_pairAt.2.2.2 ∈ gtb := gi 414 rfl rfl
set_option maxRecDepth 100000 in
theorem lk_S_141 : LkS "SevenEights" 141 m_S_pairAt 2 := ⟨gi 485 rfl rfl, gi 413 rfl rfl, gi 1 rfl rfl, cw_S_pairAt, by decide, ⟨by decide, by decide, by decide +kernel⟩⟩
set_option maxRecDepth 100000 in
theorem cw_S_isPair : Cond.code m_S_isPair.1 m_S_isPair.2.1 m_S_isPair.2.2.1 m_S_isPair.2.2.2 ∈ gtb := gi 492 rfl rfl
set_option maxRecDepth 100000 in
theorem lk_S_144 : LkS "SevenEights" 144 m_S_isPair 1 := ⟨gi 490 rfl rfl, gi 491 rfl rfl, gi 1 rfl rfl, cw_S_isPair, by decide, ⟨by decide, by decide, by decide +kernel⟩⟩
set_option maxRecDepth 100000 in
theorem fs_S_148 : Cond.fieldLink "SevenEights" 148 "SevenEights" (stn 0) "[I" ∈ gtb := gi 465 rfl rfl
set_option maxRecDepth 100000 in
theorem fs_S_151 : Cond.fieldLink "SevenEights" 151 "SevenEights" (stn 1) "[I" ∈ gtb := gi 467 rfl rfl
set_option maxRecDepth 100000 in
theorem cw_S_product : Cond.code m_S_product.1 m_S_product.2.1 m_S_product.2.2.1 m_S_product.2.2.2 ∈ gtb := gi 495 rfl rfl
set_option maxRecDepth 100000 in
theorem lk_S_154 : LkS "SevenEights" 154 m_S_product 1 := ⟨gi 493 rfl rfl, gi 494 rfl rfl, gi 1 rfl rfl, cw_S_product, by decide, ⟨by decide, by decide, by decide +kernel⟩⟩
set_option maxRecDepth 100000 in
theorem cw_S_firmAtFirst : Cond.code m_S_firmAtFirst.1 m_S_firmAtFirst.2.1 m_S_firmAtFirst.2.2.1 m_S_firmAtFirst.2.2.2 ∈ gtb := gi 464 rfl rfl
set_option maxRecDepth 100000 in
theorem lk_S_158 : LkS "SevenEights" 158 m_S_firmAtFirst 1 := ⟨gi 496 rfl rfl, gi 463 rfl rfl, gi 1 rfl rfl, cw_S_firmAtFirst, by decide, ⟨by decide, by decide, by decide +kernel⟩⟩
set_option maxRecDepth 100000 in
theorem kc_S_161 : Cond.constantLong "SevenEights" 161 (-1) ∈ gtb := gi 501 rfl rfl
set_option maxRecDepth 100000 in
theorem cw_S_nextDoor : Cond.code m_S_nextDoor.1 m_S_nextDoor.2.1 m_S_nextDoor.2.2.1 m_S_nextDoor.2.2.2 ∈ gtb := gi 504 rfl rfl
set_option maxRecDepth 100000 in
theorem lk_S_163 : LkS "SevenEights" 163 m_S_nextDoor 2 := ⟨gi 502 rfl rfl, gi 503 rfl rfl, gi 1 rfl rfl, cw_S_nextDoor, by decide, ⟨by decide, by decide, by decide +kernel⟩⟩
set_option maxRecDepth 100000 in
theorem fl_S_166 : FL "SevenEights" 166 2 2 := ⟨R_Learner, F_Learner, 5, rfl, by decide, gi 73 rfl rfl, uw_Learner⟩
set_option maxRecDepth 100000 in
theorem fl_S_169 : FL "SevenEights" 169 2 3 := ⟨R_Learner, F_Learner, 5, rfl, by decide, gi 76 rfl rfl, uw_Learner⟩
set_option maxRecDepth 100000 in
theorem fl_S_172 : FL "SevenEights" 172 2 4 := ⟨R_Learner, F_Learner, 5, rfl, by decide, gi 78 rfl rfl, uw_Learner⟩
set_option maxRecDepth 100000 in
theorem cw_Learner_box : Cond.code m_Learner_box.1 m_Learner_box.2.1 m_Learner_box.2.2.1 m_Learner_box.2.2.2 ∈ gtb := gi 512 rfl rfl
set_option maxRecDepth 100000 in
theorem lk_S_175 : LkV "SevenEights" 175 m_Learner_box 1 2 := ⟨gi 509 rfl rfl, gi 510 rfl rfl, gi 511 rfl rfl, gi 4 rfl rfl, cw_Learner_box, by decide, ⟨by decide, by decide, by decide +kernel⟩, _, rfl, rfl⟩
set_option maxRecDepth 100000 in
theorem cw_Learner_due : Cond.code m_Learner_due.1 m_Learner_due.2.1 m_Learner_due.2.2.1 m_Learner_due.2.2.2 ∈ gtb := gi 517 rfl rfl
set_option maxRecDepth 100000 in
theorem lk_S_178 : LkV "SevenEights" 178 m_Learner_due 1 2 := ⟨gi 514 rfl rfl, gi 515 rfl rfl, gi 516 rfl rfl, gi 4 rfl rfl, cw_Learner_due, by decide, ⟨by decide, by decide, by decide +kernel⟩, _, rfl, rfl⟩
set_option maxRecDepth 100000 in
theorem fs_S_181 : Cond.fieldLink "SevenEights" 181 "SevenEights" (stn 2) "[I" ∈ gtb := gi 531 rfl rfl
set_option maxRecDepth 100000 in
theorem fl_S_184 : FL "SevenEights" 184 6 2 := ⟨R_School, F_School, 6, rfl, by decide, gi 95 rfl rfl, uw_School⟩
set_option maxRecDepth 100000 in
theorem fl_S_187 : FL "SevenEights" 187 6 3 := ⟨R_School, F_School, 6, rfl, by decide, gi 97 rfl rfl, uw_School⟩
set_option maxRecDepth 100000 in
theorem cw_S_isSeconds : Cond.code m_S_isSeconds.1 m_S_isSeconds.2.1 m_S_isSeconds.2.2.1 m_S_isSeconds.2.2.2 ∈ gtb := gi 543 rfl rfl
set_option maxRecDepth 100000 in
theorem lk_S_190 : LkS "SevenEights" 190 m_S_isSeconds 1 := ⟨gi 541 rfl rfl, gi 542 rfl rfl, gi 1 rfl rfl, cw_S_isSeconds, by decide, ⟨by decide, by decide, by decide +kernel⟩⟩
set_option maxRecDepth 100000 in
theorem cw_Learner_feeling : Cond.code m_Learner_feeling.1 m_Learner_feeling.2.1 m_Learner_feeling.2.2.1 m_Learner_feeling.2.2.2 ∈ gtb := gi 547 rfl rfl
set_option maxRecDepth 100000 in
theorem lk_S_193 : LkV "SevenEights" 193 m_Learner_feeling 2 2 := ⟨gi 544 rfl rfl, gi 545 rfl rfl, gi 546 rfl rfl, gi 4 rfl rfl, cw_Learner_feeling, by decide, ⟨by decide, by decide, by decide +kernel⟩, _, rfl, rfl⟩
set_option maxRecDepth 100000 in
theorem cw_Answer_find : Cond.code m_Answer_find.1 m_Answer_find.2.1 m_Answer_find.2.2.1 m_Answer_find.2.2.2 ∈ gtb := gi 556 rfl rfl
set_option maxRecDepth 100000 in
theorem lk_S_196 : LkV "SevenEights" 196 m_Answer_find 4 0 := ⟨gi 553 rfl rfl, gi 554 rfl rfl, gi 555 rfl rfl, gi 6 rfl rfl, cw_Answer_find, by decide, ⟨by decide, by decide, by decide +kernel⟩, _, rfl, rfl⟩
set_option maxRecDepth 100000 in
theorem fl_S_200 : FL "SevenEights" 200 0 0 := ⟨R_Answer, F_Answer, 4, rfl, by decide, gi 145 rfl rfl, uw_Answer⟩
set_option maxRecDepth 100000 in
theorem fl_S_203 : FL "SevenEights" 203 0 1 := ⟨R_Answer, F_Answer, 4, rfl, by decide, gi 148 rfl rfl, uw_Answer⟩
set_option maxRecDepth 100000 in
theorem fl_S_206 : FL "SevenEights" 206 0 2 := ⟨R_Answer, F_Answer, 4, rfl, by decide, gi 150 rfl rfl, uw_Answer⟩
set_option maxRecDepth 100000 in
theorem fl_S_209 : FL "SevenEights" 209 0 3 := ⟨R_Answer, F_Answer, 4, rfl, by decide, gi 153 rfl rfl, uw_Answer⟩
set_option maxRecDepth 100000 in
theorem cw_Learner_keepAnswer : Cond.code m_Learner_keepAnswer.1 m_Learner_keepAnswer.2.1 m_Learner_keepAnswer.2.2.1 m_Learner_keepAnswer.2.2.2 ∈ gtb := gi 593 rfl rfl
set_option maxRecDepth 100000 in
theorem lk_S_212 : LkV "SevenEights" 212 m_Learner_keepAnswer 3 2 := ⟨gi 590 rfl rfl, gi 591 rfl rfl, gi 592 rfl rfl, gi 4 rfl rfl, cw_Learner_keepAnswer, by decide, ⟨by decide, by decide, by decide +kernel⟩, _, rfl, rfl⟩
set_option maxRecDepth 100000 in
theorem cw_Learner_hear : Cond.code m_Learner_hear.1 m_Learner_hear.2.1 m_Learner_hear.2.2.1 m_Learner_hear.2.2.2 ∈ gtb := gi 605 rfl rfl
set_option maxRecDepth 100000 in
theorem lk_S_216 : LkV "SevenEights" 216 m_Learner_hear 1 2 := ⟨gi 602 rfl rfl, gi 603 rfl rfl, gi 604 rfl rfl, gi 4 rfl rfl, cw_Learner_hear, by decide, ⟨by decide, by decide, by decide +kernel⟩, _, rfl, rfl⟩
set_option maxRecDepth 100000 in
theorem cw_School_rest : Cond.code m_School_rest.1 m_School_rest.2.1 m_School_rest.2.2.1 m_School_rest.2.2.2 ∈ gtb := gi 616 rfl rfl
set_option maxRecDepth 100000 in
theorem lk_S_220 : LkV "SevenEights" 220 m_School_rest 1 6 := ⟨gi 613 rfl rfl, gi 614 rfl rfl, gi 615 rfl rfl, gi 2 rfl rfl, cw_School_rest, by decide, ⟨by decide, by decide, by decide +kernel⟩, _, rfl, rfl⟩
set_option maxRecDepth 100000 in
theorem cw_S_knownSet : Cond.code m_S_knownSet.1 m_S_knownSet.2.1 m_S_knownSet.2.2.1 m_S_knownSet.2.2.2 ∈ gtb := gi 635 rfl rfl
set_option maxRecDepth 100000 in
theorem lk_S_223 : LkV "SevenEights" 223 m_S_knownSet 2 10 := ⟨gi 632 rfl rfl, gi 634 rfl rfl, gs (q := (⟨"SevenEights", "knownSet", "(LSevenEights$Learner;I)J"⟩, 14)) 11 rfl rfl, gi 1 rfl rfl, cw_S_knownSet, by decide, ⟨by decide, by decide, by decide +kernel⟩, _, rfl, rfl⟩
set_option maxRecDepth 100000 in
theorem cw_Learner_copyFrom : Cond.code m_Learner_copyFrom.1 m_Learner_copyFrom.2.1 m_Learner_copyFrom.2.2.1 m_Learner_copyFrom.2.2.2 ∈ gtb := gi 644 rfl rfl
set_option maxRecDepth 100000 in
theorem lk_S_227 : LkV "SevenEights" 227 m_Learner_copyFrom 1 2 := ⟨gi 641 rfl rfl, gi 642 rfl rfl, gi 643 rfl rfl, gi 4 rfl rfl, cw_Learner_copyFrom, by decide, ⟨by decide, by decide, by decide +kernel⟩, _, rfl, rfl⟩
set_option maxRecDepth 100000 in
theorem cw_Learner_sleep : Cond.code m_Learner_sleep.1 m_Learner_sleep.2.1 m_Learner_sleep.2.2.1 m_Learner_sleep.2.2.2 ∈ gtb := gi 620 rfl rfl
set_option maxRecDepth 100000 in
theorem lk_S_230 : LkV "SevenEights" 230 m_Learner_sleep 2 2 := ⟨gi 646 rfl rfl, gi 618 rfl rfl, gi 619 rfl rfl, gi 4 rfl rfl, cw_Learner_sleep, by decide, ⟨by decide, by decide, by decide +kernel⟩, _, rfl, rfl⟩
set_option maxRecDepth 100000 in
theorem kc_S_234 : Cond.constantLong "SevenEights" 234 (68719476735) ∈ gtb := gi 647 rfl rfl
set_option maxRecDepth 100000 in
theorem fl_S_236 : FL "SevenEights" 236 6 0 := ⟨R_School, F_School, 6, rfl, by decide, gi 91 rfl rfl, uw_School⟩
set_option maxRecDepth 100000 in
theorem cw_JLong_bitCount : Cond.code m_JLong_bitCount.1 m_JLong_bitCount.2.1 m_JLong_bitCount.2.2.1 m_JLong_bitCount.2.2.2 ∈ gtb := gi 654 rfl rfl
set_option maxRecDepth 100000 in
theorem lk_S_240 : LkS "SevenEights" 240 m_JLong_bitCount 1 := ⟨gi 652 rfl rfl, gi 653 rfl rfl, gi 19 rfl rfl, cw_JLong_bitCount, by decide, ⟨by decide, by decide, by decide +kernel⟩⟩
set_option maxRecDepth 100000 in
theorem cw_S_commonDivisor : Cond.code m_S_commonDivisor.1 m_S_commonDivisor.2.1 m_S_commonDivisor.2.2.1 m_S_commonDivisor.2.2.2 ∈ gtb := gi 660 rfl rfl
set_option maxRecDepth 100000 in
theorem lk_S_246 : LkS "SevenEights" 246 m_S_commonDivisor 2 := ⟨gi 658 rfl rfl, gi 659 rfl rfl, gi 1 rfl rfl, cw_S_commonDivisor, by decide, ⟨by decide, by decide, by decide +kernel⟩⟩
set_option maxRecDepth 100000 in
theorem cw_Plan_weigh : Cond.code m_Plan_weigh.1 m_Plan_weigh.2.1 m_Plan_weigh.2.2.1 m_Plan_weigh.2.2.2 ∈ gtb := gi 668 rfl rfl
set_option maxRecDepth 100000 in
theorem lk_S_249 : LkV "SevenEights" 249 m_Plan_weigh 3 4 := ⟨gi 665 rfl rfl, gi 666 rfl rfl, gi 667 rfl rfl, gi 7 rfl rfl, cw_Plan_weigh, by decide, ⟨by decide, by decide, by decide +kernel⟩, _, rfl, rfl⟩
set_option maxRecDepth 100000 in
theorem cw_Plan_chooseOne : Cond.code m_Plan_chooseOne.1 m_Plan_chooseOne.2.1 m_Plan_chooseOne.2.2.1 m_Plan_chooseOne.2.2.2 ∈ gtb := gi 674 rfl rfl
set_option maxRecDepth 100000 in
theorem lk_S_253 : LkV "SevenEights" 253 m_Plan_chooseOne 0 4 := ⟨gi 671 rfl rfl, gi 672 rfl rfl, gi 673 rfl rfl, gi 7 rfl rfl, cw_Plan_chooseOne, by decide, ⟨by decide, by decide, by decide +kernel⟩, _, rfl, rfl⟩
set_option maxRecDepth 100000 in
theorem cw_Plan_chooseTwo : Cond.code m_Plan_chooseTwo.1 m_Plan_chooseTwo.2.1 m_Plan_chooseTwo.2.2.1 m_Plan_chooseTwo.2.2.2 ∈ gtb := gi 682 rfl rfl
set_option maxRecDepth 100000 in
theorem lk_S_256 : LkV "SevenEights" 256 m_Plan_chooseTwo 0 4 := ⟨gi 679 rfl rfl, gi 680 rfl rfl, gi 681 rfl rfl, gi 7 rfl rfl, cw_Plan_chooseTwo, by decide, ⟨by decide, by decide, by decide +kernel⟩, _, rfl, rfl⟩
set_option maxRecDepth 100000 in
theorem fl_S_259 : FL "SevenEights" 259 4 2 := ⟨R_Plan, F_Plan, 5, rfl, by decide, gi 172 rfl rfl, uw_Plan⟩
set_option maxRecDepth 100000 in
theorem fl_S_262 : FL "SevenEights" 262 4 3 := ⟨R_Plan, F_Plan, 5, rfl, by decide, gi 174 rfl rfl, uw_Plan⟩
set_option maxRecDepth 100000 in
theorem fl_S_265 : FL "SevenEights" 265 4 4 := ⟨R_Plan, F_Plan, 5, rfl, by decide, gi 176 rfl rfl, uw_Plan⟩
set_option maxRecDepth 100000 in
theorem cw_S_firmWhenTold : Cond.code m_S_firmWhenTold.1 m_S_firmWhenTold.2.1 m_S_firmWhenTold.2.2.1 m_S_firmWhenTold.2.2.2 ∈ gtb := gi 608 rfl rfl
set_option maxRecDepth 100000 in
theorem lk_S_268 : LkS "SevenEights" 268 m_S_firmWhenTold 1 := ⟨gi 687 rfl rfl, gi 607 rfl rfl, gi 1 rfl rfl, cw_S_firmWhenTold, by decide, ⟨by decide, by decide, by decide +kernel⟩⟩
set_option maxRecDepth 100000 in
theorem cw_S_howManyKnow : Cond.code m_S_howManyKnow.1 m_S_howManyKnow.2.1 m_S_howManyKnow.2.2.1 m_S_howManyKnow.2.2.2 ∈ gtb := gi 695 rfl rfl
set_option maxRecDepth 100000 in
theorem lk_S_271 : LkV "SevenEights" 271 m_S_howManyKnow 2 10 := ⟨gi 692 rfl rfl, gi 694 rfl rfl, gs (q := (⟨"SevenEights", "howManyKnow", "(II)I"⟩, 14)) 13 rfl rfl, gi 1 rfl rfl, cw_S_howManyKnow, by decide, ⟨by decide, by decide, by decide +kernel⟩, _, rfl, rfl⟩
set_option maxRecDepth 100000 in
theorem cw_S_countSlips : Cond.code m_S_countSlips.1 m_S_countSlips.2.1 m_S_countSlips.2.2.1 m_S_countSlips.2.2.2 ∈ gtb := gi 703 rfl rfl
set_option maxRecDepth 100000 in
theorem lk_S_274 : LkV "SevenEights" 274 m_S_countSlips 2 10 := ⟨gi 700 rfl rfl, gi 702 rfl rfl, gs (q := (⟨"SevenEights", "countSlips", "(LSevenEights$Learner;I)V"⟩, 14)) 14 rfl rfl, gi 1 rfl rfl, cw_S_countSlips, by decide, ⟨by decide, by decide, by decide +kernel⟩, _, rfl, rfl⟩
set_option maxRecDepth 100000 in
theorem fl_S_278 : FL "SevenEights" 278 3 1 := ⟨R_Lesson, F_Lesson, 4, rfl, by decide, gi 45 rfl rfl, uw_Lesson⟩
set_option maxRecDepth 100000 in
theorem fl_S_281 : FL "SevenEights" 281 3 0 := ⟨R_Lesson, F_Lesson, 4, rfl, by decide, gi 43 rfl rfl, uw_Lesson⟩
set_option maxRecDepth 100000 in
theorem fl_S_284 : FL "SevenEights" 284 3 2 := ⟨R_Lesson, F_Lesson, 4, rfl, by decide, gi 47 rfl rfl, uw_Lesson⟩
set_option maxRecDepth 100000 in
theorem cw_Answer_isProduct : Cond.code m_Answer_isProduct.1 m_Answer_isProduct.2.1 m_Answer_isProduct.2.2.1 m_Answer_isProduct.2.2.2 ∈ gtb := gi 597 rfl rfl
set_option maxRecDepth 100000 in
theorem lk_S_286 : LkV "SevenEights" 286 m_Answer_isProduct 0 0 := ⟨gi 636 rfl rfl, gi 595 rfl rfl, gi 596 rfl rfl, gi 6 rfl rfl, cw_Answer_isProduct, by decide, ⟨by decide, by decide, by decide +kernel⟩, _, rfl, rfl⟩
set_option maxRecDepth 100000 in
theorem fl_S_290 : FL "SevenEights" 290 6 4 := ⟨R_School, F_School, 6, rfl, by decide, gi 99 rfl rfl, uw_School⟩
set_option maxRecDepth 100000 in
theorem fp_S_290 : FP "SevenEights" 290 6 4 .int := ⟨R_School, F_School, 6, t_School, rfl, by decide, gi 99 rfl rfl, uw_School, t_School_ok, n_School, rfl, by decide +kernel⟩
set_option maxRecDepth 100000 in
theorem kc_S_293 : Cond.constant "SevenEights" 293 (1103515245) ∈ gtb := gi 720 rfl rfl
set_option maxRecDepth 100000 in
theorem cw_S_memberAt : Cond.code m_S_memberAt.1 m_S_memberAt.2.1 m_S_memberAt.2.2.1 m_S_memberAt.2.2.2 ∈ gtb := gi 723 rfl rfl
set_option maxRecDepth 100000 in
theorem lk_S_294 : LkS "SevenEights" 294 m_S_memberAt 2 := ⟨gi 721 rfl rfl, gi 722 rfl rfl, gi 1 rfl rfl, cw_S_memberAt, by decide, ⟨by decide, by decide, by decide +kernel⟩⟩
set_option maxRecDepth 100000 in
theorem cw_S_fillRows : Cond.code m_S_fillRows.1 m_S_fillRows.2.1 m_S_fillRows.2.2.1 m_S_fillRows.2.2.2 ∈ gtb := gi 731 rfl rfl
set_option maxRecDepth 100000 in
theorem lk_S_298 : LkV "SevenEights" 298 m_S_fillRows 2 10 := ⟨gi 728 rfl rfl, gi 730 rfl rfl, gs (q := (⟨"SevenEights", "fillRows", "(LSevenEights$Rows;LSevenEights$Learner;)V"⟩, 14)) 15 rfl rfl, gi 1 rfl rfl, cw_S_fillRows, by decide, ⟨by decide, by decide, by decide +kernel⟩, _, rfl, rfl⟩
set_option maxRecDepth 100000 in
theorem fl_S_302 : FL "SevenEights" 302 5 1 := ⟨R_Rows, F_Rows, 2, rfl, by decide, gi 197 rfl rfl, uw_Rows⟩
set_option maxRecDepth 100000 in
theorem fp_S_302 : FP "SevenEights" 302 5 1 .int := ⟨R_Rows, F_Rows, 2, t_Rows, rfl, by decide, gi 197 rfl rfl, uw_Rows, t_Rows_ok, n_Rows, rfl, by decide +kernel⟩
set_option maxRecDepth 100000 in
theorem cw_Rows_placeOf : Cond.code m_Rows_placeOf.1 m_Rows_placeOf.2.1 m_Rows_placeOf.2.2.1 m_Rows_placeOf.2.2.2 ∈ gtb := gi 743 rfl rfl
set_option maxRecDepth 100000 in
theorem lk_S_303 : LkV "SevenEights" 303 m_Rows_placeOf 2 5 := ⟨gi 740 rfl rfl, gi 741 rfl rfl, gi 742 rfl rfl, gi 8 rfl rfl, cw_Rows_placeOf, by decide, ⟨by decide, by decide, by decide +kernel⟩, _, rfl, rfl⟩
set_option maxRecDepth 100000 in
theorem fl_S_306 : FL "SevenEights" 306 5 0 := ⟨R_Rows, F_Rows, 2, rfl, by decide, gi 195 rfl rfl, uw_Rows⟩
set_option maxRecDepth 100000 in
theorem cw_Rows_isSameAt : Cond.code m_Rows_isSameAt.1 m_Rows_isSameAt.2.1 m_Rows_isSameAt.2.2.1 m_Rows_isSameAt.2.2.2 ∈ gtb := gi 756 rfl rfl
set_option maxRecDepth 100000 in
theorem lk_S_309 : LkV "SevenEights" 309 m_Rows_isSameAt 2 5 := ⟨gi 753 rfl rfl, gi 754 rfl rfl, gi 755 rfl rfl, gi 8 rfl rfl, cw_Rows_isSameAt, by decide, ⟨by decide, by decide, by decide +kernel⟩, _, rfl, rfl⟩
set_option maxRecDepth 100000 in
theorem cw_S_isSheet : Cond.code m_S_isSheet.1 m_S_isSheet.2.1 m_S_isSheet.2.2.1 m_S_isSheet.2.2.2 ∈ gtb := gi 763 rfl rfl
set_option maxRecDepth 100000 in
theorem lk_S_313 : LkS "SevenEights" 313 m_S_isSheet 1 := ⟨gi 761 rfl rfl, gi 762 rfl rfl, gi 1 rfl rfl, cw_S_isSheet, by decide, ⟨by decide, by decide, by decide +kernel⟩⟩
set_option maxRecDepth 100000 in
theorem cw_Sheet_isMissing : Cond.code m_Sheet_isMissing.1 m_Sheet_isMissing.2.1 m_Sheet_isMissing.2.2.1 m_Sheet_isMissing.2.2.2 ∈ gtb := gi 767 rfl rfl
set_option maxRecDepth 100000 in
theorem lk_S_316 : LkV "SevenEights" 316 m_Sheet_isMissing 0 7 := ⟨gi 764 rfl rfl, gi 765 rfl rfl, gi 766 rfl rfl, gi 10 rfl rfl, cw_Sheet_isMissing, by decide, ⟨by decide, by decide, by decide +kernel⟩, _, rfl, rfl⟩
set_option maxRecDepth 100000 in
theorem fl_S_319 : FL "SevenEights" 319 7 0 := ⟨R_Sheet, F_Sheet, 3, rfl, by decide, gi 244 rfl rfl, uw_Sheet⟩
set_option maxRecDepth 100000 in
theorem fl_S_322 : FL "SevenEights" 322 7 1 := ⟨R_Sheet, F_Sheet, 3, rfl, by decide, gi 247 rfl rfl, uw_Sheet⟩
set_option maxRecDepth 100000 in
theorem fl_S_323 : FL "SevenEights" 323 7 2 := ⟨R_Sheet, F_Sheet, 3, rfl, by decide, gi 249 rfl rfl, uw_Sheet⟩
set_option maxRecDepth 100000 in
theorem mm_S_327 : Cond.methodLink "SevenEights" 327 Lib.Math.min.name ∈ gtb ∧ Cond.static Lib.Math.min.name ∈ gtb ∧ Cond.initialized "java/lang/Math" ∈ gtb ∧ Cond.code Lib.Math.min.name Lib.Math.min.code 2 (some .int) ∈ gtb := ⟨gi 415 rfl rfl, gi 416 rfl rfl, gi 17 rfl rfl, gi 417 rfl rfl⟩
set_option maxRecDepth 100000 in
theorem mm_S_332 : Cond.methodLink "SevenEights" 332 Lib.Math.max.name ∈ gtb ∧ Cond.static Lib.Math.max.name ∈ gtb ∧ Cond.initialized "java/lang/Math" ∈ gtb ∧ Cond.code Lib.Math.max.name Lib.Math.max.code 2 (some .int) ∈ gtb := ⟨gi 418 rfl rfl, gi 419 rfl rfl, gi 17 rfl rfl, gi 420 rfl rfl⟩
set_option maxRecDepth 100000 in
theorem cw_Sheet_lose : Cond.code m_Sheet_lose.1 m_Sheet_lose.2.1 m_Sheet_lose.2.2.1 m_Sheet_lose.2.2.2 ∈ gtb := gi 775 rfl rfl
set_option maxRecDepth 100000 in
theorem lk_S_335 : LkV "SevenEights" 335 m_Sheet_lose 0 7 := ⟨gi 772 rfl rfl, gi 773 rfl rfl, gi 774 rfl rfl, gi 10 rfl rfl, cw_Sheet_lose, by decide, ⟨by decide, by decide, by decide +kernel⟩, _, rfl, rfl⟩
set_option maxRecDepth 100000 in
theorem cw_Sheet_become : Cond.code m_Sheet_become.1 m_Sheet_become.2.1 m_Sheet_become.2.2.1 m_Sheet_become.2.2.2 ∈ gtb := gi 779 rfl rfl
set_option maxRecDepth 100000 in
theorem lk_S_338 : LkV "SevenEights" 338 m_Sheet_become 2 7 := ⟨gi 776 rfl rfl, gi 777 rfl rfl, gi 778 rfl rfl, gi 10 rfl rfl, cw_Sheet_become, by decide, ⟨by decide, by decide, by decide +kernel⟩, _, rfl, rfl⟩
set_option maxRecDepth 100000 in
theorem cw_Sheet_narrowed : Cond.code m_Sheet_narrowed.1 m_Sheet_narrowed.2.1 m_Sheet_narrowed.2.2.1 m_Sheet_narrowed.2.2.2 ∈ gtb := gi 787 rfl rfl
set_option maxRecDepth 100000 in
theorem lk_S_341 : LkV "SevenEights" 341 m_Sheet_narrowed 1 7 := ⟨gi 784 rfl rfl, gi 785 rfl rfl, gi 786 rfl rfl, gi 10 rfl rfl, cw_Sheet_narrowed, by decide, ⟨by decide, by decide, by decide +kernel⟩, _, rfl, rfl⟩
set_option maxRecDepth 100000 in
theorem cw_S_isShelf : Cond.code m_S_isShelf.1 m_S_isShelf.2.1 m_S_isShelf.2.2.1 m_S_isShelf.2.2.2 ∈ gtb := gi 798 rfl rfl
set_option maxRecDepth 100000 in
theorem lk_S_345 : LkS "SevenEights" 345 m_S_isShelf 1 := ⟨gi 796 rfl rfl, gi 797 rfl rfl, gi 1 rfl rfl, cw_S_isShelf, by decide, ⟨by decide, by decide, by decide +kernel⟩⟩
set_option maxRecDepth 100000 in
theorem cw_Shelf_holdLearner : Cond.code m_Shelf_holdLearner.1 m_Shelf_holdLearner.2.1 m_Shelf_holdLearner.2.2.1 m_Shelf_holdLearner.2.2.2 ∈ gtb := gi 802 rfl rfl
set_option maxRecDepth 100000 in
theorem lk_S_348 : LkV "SevenEights" 348 m_Shelf_holdLearner 1 8 := ⟨gi 799 rfl rfl, gi 800 rfl rfl, gi 801 rfl rfl, gi 11 rfl rfl, cw_Shelf_holdLearner, by decide, ⟨by decide, by decide, by decide +kernel⟩, _, rfl, rfl⟩
set_option maxRecDepth 100000 in
theorem cw_Shelf_holdRow : Cond.code m_Shelf_holdRow.1 m_Shelf_holdRow.2.1 m_Shelf_holdRow.2.2.1 m_Shelf_holdRow.2.2.2 ∈ gtb := gi 810 rfl rfl
set_option maxRecDepth 100000 in
theorem lk_S_351 : LkV "SevenEights" 351 m_Shelf_holdRow 1 8 := ⟨gi 807 rfl rfl, gi 808 rfl rfl, gi 809 rfl rfl, gi 11 rfl rfl, cw_Shelf_holdRow, by decide, ⟨by decide, by decide, by decide +kernel⟩, _, rfl, rfl⟩
set_option maxRecDepth 100000 in
theorem cw_Shelf_holdNothing : Cond.code m_Shelf_holdNothing.1 m_Shelf_holdNothing.2.1 m_Shelf_holdNothing.2.2.1 m_Shelf_holdNothing.2.2.2 ∈ gtb := gi 806 rfl rfl
set_option maxRecDepth 100000 in
theorem lk_S_355 : LkV "SevenEights" 355 m_Shelf_holdNothing 0 8 := ⟨gi 811 rfl rfl, gi 804 rfl rfl, gi 805 rfl rfl, gi 11 rfl rfl, cw_Shelf_holdNothing, by decide, ⟨by decide, by decide, by decide +kernel⟩, _, rfl, rfl⟩
set_option maxRecDepth 100000 in
theorem cw_Shelf_holdsRow : Cond.code m_Shelf_holdsRow.1 m_Shelf_holdsRow.2.1 m_Shelf_holdsRow.2.2.1 m_Shelf_holdsRow.2.2.2 ∈ gtb := gi 819 rfl rfl
set_option maxRecDepth 100000 in
theorem lk_S_358 : LkV "SevenEights" 358 m_Shelf_holdsRow 0 8 := ⟨gi 816 rfl rfl, gi 817 rfl rfl, gi 818 rfl rfl, gi 11 rfl rfl, cw_Shelf_holdsRow, by decide, ⟨by decide, by decide, by decide +kernel⟩, _, rfl, rfl⟩
set_option maxRecDepth 100000 in
theorem fl_S_361 : FL "SevenEights" 361 8 1 := ⟨R_Shelf, F_Shelf, 3, rfl, by decide, gi 266 rfl rfl, uw_Shelf⟩
set_option maxRecDepth 100000 in
theorem fl_S_362 : FL "SevenEights" 362 8 2 := ⟨R_Shelf, F_Shelf, 3, rfl, by decide, gi 268 rfl rfl, uw_Shelf⟩
set_option maxRecDepth 100000 in
theorem fl_S_363 : FL "SevenEights" 363 8 0 := ⟨R_Shelf, F_Shelf, 3, rfl, by decide, gi 264 rfl rfl, uw_Shelf⟩
set_option maxRecDepth 100000 in
theorem cw_S_isUnder : Cond.code m_S_isUnder.1 m_S_isUnder.2.1 m_S_isUnder.2.2.1 m_S_isUnder.2.2.2 ∈ gtb := gi 822 rfl rfl
set_option maxRecDepth 100000 in
theorem lk_S_366 : LkS "SevenEights" 366 m_S_isUnder 2 := ⟨gi 820 rfl rfl, gi 821 rfl rfl, gi 1 rfl rfl, cw_S_isUnder, by decide, ⟨by decide, by decide, by decide +kernel⟩⟩
set_option maxRecDepth 100000 in
theorem cw_Doer_clear : Cond.code m_Doer_clear.1 m_Doer_clear.2.1 m_Doer_clear.2.2.1 m_Doer_clear.2.2.2 ∈ gtb := gi 832 rfl rfl
set_option maxRecDepth 100000 in
theorem lk_S_369 : LkV "SevenEights" 369 m_Doer_clear 0 1 := ⟨gi 829 rfl rfl, gi 830 rfl rfl, gi 831 rfl rfl, gi 9 rfl rfl, cw_Doer_clear, by decide, ⟨by decide, by decide, by decide +kernel⟩, _, rfl, rfl⟩
set_option maxRecDepth 100000 in
theorem cw_Doer_become : Cond.code m_Doer_become.1 m_Doer_become.2.1 m_Doer_become.2.2.1 m_Doer_become.2.2.2 ∈ gtb := gi 836 rfl rfl
set_option maxRecDepth 100000 in
theorem lk_S_372 : LkV "SevenEights" 372 m_Doer_become 3 1 := ⟨gi 833 rfl rfl, gi 834 rfl rfl, gi 835 rfl rfl, gi 9 rfl rfl, cw_Doer_become, by decide, ⟨by decide, by decide, by decide +kernel⟩, _, rfl, rfl⟩
set_option maxRecDepth 100000 in
theorem cw_Doer_bodyOf : Cond.code m_Doer_bodyOf.1 m_Doer_bodyOf.2.1 m_Doer_bodyOf.2.2.1 m_Doer_bodyOf.2.2.2 ∈ gtb := gi 840 rfl rfl
set_option maxRecDepth 100000 in
theorem lk_S_375 : LkV "SevenEights" 375 m_Doer_bodyOf 1 1 := ⟨gi 837 rfl rfl, gi 838 rfl rfl, gi 839 rfl rfl, gi 9 rfl rfl, cw_Doer_bodyOf, by decide, ⟨by decide, by decide, by decide +kernel⟩, _, rfl, rfl⟩
set_option maxRecDepth 100000 in
theorem cw_S_run : Cond.code m_S_run.1 m_S_run.2.1 m_S_run.2.2.1 m_S_run.2.2.2 ∈ gtb := gi 851 rfl rfl
set_option maxRecDepth 100000 in
theorem lk_S_378 : LkS "SevenEights" 378 m_S_run 4 := ⟨gi 849 rfl rfl, gi 850 rfl rfl, gi 1 rfl rfl, cw_S_run, by decide, ⟨by decide, by decide, by decide +kernel⟩⟩
set_option maxRecDepth 100000 in
theorem fl_S_382 : FL "SevenEights" 382 1 3 := ⟨R_Doer, F_Doer, 6, rfl, by decide, gi 219 rfl rfl, uw_Doer⟩
set_option maxRecDepth 100000 in
theorem fl_S_385 : FL "SevenEights" 385 1 5 := ⟨R_Doer, F_Doer, 6, rfl, by decide, gi 223 rfl rfl, uw_Doer⟩
set_option maxRecDepth 100000 in
theorem fl_S_386 : FL "SevenEights" 386 1 4 := ⟨R_Doer, F_Doer, 6, rfl, by decide, gi 221 rfl rfl, uw_Doer⟩
set_option maxRecDepth 100000 in
theorem cw_School_copyFrom : Cond.code m_School_copyFrom.1 m_School_copyFrom.2.1 m_School_copyFrom.2.2.1 m_School_copyFrom.2.2.2 ∈ gtb := gi 875 rfl rfl
set_option maxRecDepth 100000 in
theorem lk_S_389 : LkV "SevenEights" 389 m_School_copyFrom 1 6 := ⟨gi 872 rfl rfl, gi 873 rfl rfl, gi 874 rfl rfl, gi 2 rfl rfl, cw_School_copyFrom, by decide, ⟨by decide, by decide, by decide +kernel⟩, _, rfl, rfl⟩
set_option maxRecDepth 100000 in
theorem fs_S_392 : Cond.fieldLink "SevenEights" 392 "SevenEights" (stn 3) "[I" ∈ gtb := gi 823 rfl rfl
set_option maxRecDepth 100000 in
theorem cw_Rows_append : Cond.code m_Rows_append.1 m_Rows_append.2.1 m_Rows_append.2.2.1 m_Rows_append.2.2.2 ∈ gtb := gi 735 rfl rfl
set_option maxRecDepth 100000 in
theorem lk_S_395 : LkV "SevenEights" 395 m_Rows_append 3 5 := ⟨gi 732 rfl rfl, gi 733 rfl rfl, gi 734 rfl rfl, gi 8 rfl rfl, cw_Rows_append, by decide, ⟨by decide, by decide, by decide +kernel⟩, _, rfl, rfl⟩
set_option maxRecDepth 100000 in
theorem cw_Doer_begin : Cond.code m_Doer_begin.1 m_Doer_begin.2.1 m_Doer_begin.2.2.1 m_Doer_begin.2.2.2 ∈ gtb := gi 855 rfl rfl
set_option maxRecDepth 100000 in
theorem lk_S_397 : LkV "SevenEights" 397 m_Doer_begin 1 1 := ⟨gi 852 rfl rfl, gi 853 rfl rfl, gi 854 rfl rfl, gi 9 rfl rfl, cw_Doer_begin, by decide, ⟨by decide, by decide, by decide +kernel⟩, _, rfl, rfl⟩
set_option maxRecDepth 100000 in
theorem fl_S_400 : FL "SevenEights" 400 1 1 := ⟨R_Doer, F_Doer, 6, rfl, by decide, gi 215 rfl rfl, uw_Doer⟩
set_option maxRecDepth 100000 in
theorem fl_S_403 : FL "SevenEights" 403 1 2 := ⟨R_Doer, F_Doer, 6, rfl, by decide, gi 217 rfl rfl, uw_Doer⟩
set_option maxRecDepth 100000 in
theorem cw_Doer_partEvenly : Cond.code m_Doer_partEvenly.1 m_Doer_partEvenly.2.1 m_Doer_partEvenly.2.2.1 m_Doer_partEvenly.2.2.2 ∈ gtb := gi 859 rfl rfl
set_option maxRecDepth 100000 in
theorem lk_S_404 : LkV "SevenEights" 404 m_Doer_partEvenly 1 1 := ⟨gi 856 rfl rfl, gi 857 rfl rfl, gi 858 rfl rfl, gi 9 rfl rfl, cw_Doer_partEvenly, by decide, ⟨by decide, by decide, by decide +kernel⟩, _, rfl, rfl⟩
set_option maxRecDepth 100000 in
theorem fp_Answer_9 : FP "SevenEights$Answer" 9 0 0 .int := ⟨R_Answer, F_Answer, 4, t_Answer, rfl, by decide, gi 144 rfl rfl, uw_Answer, t_Answer_ok, n_Answer, rfl, by decide +kernel⟩
set_option maxRecDepth 100000 in
theorem fl_Answer_15 : FL "SevenEights$Answer" 15 0 1 := ⟨R_Answer, F_Answer, 4, rfl, by decide, gi 146 rfl rfl, uw_Answer⟩
set_option maxRecDepth 100000 in
theorem fp_Answer_15 : FP "SevenEights$Answer" 15 0 1 .int := ⟨R_Answer, F_Answer, 4, t_Answer, rfl, by decide, gi 146 rfl rfl, uw_Answer, t_Answer_ok, n_Answer, rfl, by decide +kernel⟩
set_option maxRecDepth 100000 in
theorem fp_Answer_18 : FP "SevenEights$Answer" 18 0 2 .int := ⟨R_Answer, F_Answer, 4, t_Answer, rfl, by decide, gi 149 rfl rfl, uw_Answer, t_Answer_ok, n_Answer, rfl, by decide +kernel⟩
set_option maxRecDepth 100000 in
theorem fp_Answer_21 : FP "SevenEights$Answer" 21 0 3 .int := ⟨R_Answer, F_Answer, 4, t_Answer, rfl, by decide, gi 151 rfl rfl, uw_Answer, t_Answer_ok, n_Answer, rfl, by decide +kernel⟩
set_option maxRecDepth 100000 in
theorem cw_Learner_isAtOnce : Cond.code m_Learner_isAtOnce.1 m_Learner_isAtOnce.2.1 m_Learner_isAtOnce.2.2.1 m_Learner_isAtOnce.2.2.2 ∈ gtb := gi 560 rfl rfl
set_option maxRecDepth 100000 in
theorem lk_Answer_24 : LkV "SevenEights$Answer" 24 m_Learner_isAtOnce 3 2 := ⟨gi 557 rfl rfl, gi 558 rfl rfl, gi 559 rfl rfl, gi 4 rfl rfl, cw_Learner_isAtOnce, by decide, ⟨by decide, by decide, by decide +kernel⟩, _, rfl, rfl⟩
set_option maxRecDepth 100000 in
theorem lk_Answer_30 : LkSN "SevenEights$Answer" 30 m_S_product 1 := ⟨⟨"SevenEights", List.mem_of_getElem? (i := 13) rfl⟩, gi 494 rfl rfl, gi 1 rfl rfl, cw_S_product, by decide, ⟨by decide, by decide, by decide +kernel⟩⟩
set_option maxRecDepth 100000 in
theorem cw_Learner_takes : Cond.code m_Learner_takes.1 m_Learner_takes.2.1 m_Learner_takes.2.2.1 m_Learner_takes.2.2.2 ∈ gtb := gi 569 rfl rfl
set_option maxRecDepth 100000 in
theorem lk_Answer_34 : LkV "SevenEights$Answer" 34 m_Learner_takes 2 2 := ⟨gi 566 rfl rfl, gi 567 rfl rfl, gi 568 rfl rfl, gi 4 rfl rfl, cw_Learner_takes, by decide, ⟨by decide, by decide, by decide +kernel⟩, _, rfl, rfl⟩
set_option maxRecDepth 100000 in
theorem cw_Answer_become : Cond.code m_Answer_become.1 m_Answer_become.2.1 m_Answer_become.2.2.1 m_Answer_become.2.2.2 ∈ gtb := gi 573 rfl rfl
set_option maxRecDepth 100000 in
theorem lk_Answer_38 : LkV "SevenEights$Answer" 38 m_Answer_become 4 0 := ⟨gi 570 rfl rfl, gi 572 rfl rfl, gs (q := (⟨"SevenEights$Answer", "become", "(IIII)V"⟩, 4)) 10 rfl rfl, gi 6 rfl rfl, cw_Answer_become, by decide, ⟨by decide, by decide, by decide +kernel⟩, _, rfl, rfl⟩
set_option maxRecDepth 100000 in
theorem cw_Answer_wayRound : Cond.code m_Answer_wayRound.1 m_Answer_wayRound.2.1 m_Answer_wayRound.2.2.1 m_Answer_wayRound.2.2.2 ∈ gtb := gi 576 rfl rfl
set_option maxRecDepth 100000 in
theorem lk_Answer_42 : LkS "SevenEights$Answer" 42 m_Answer_wayRound 4 := ⟨gi 574 rfl rfl, gi 575 rfl rfl, gi 6 rfl rfl, cw_Answer_wayRound, by decide, ⟨by decide, by decide, by decide +kernel⟩⟩
set_option maxRecDepth 100000 in
theorem cw_Learner_step : Cond.code m_Learner_step.1 m_Learner_step.2.1 m_Learner_step.2.2.1 m_Learner_step.2.2.2 ∈ gtb := gi 580 rfl rfl
set_option maxRecDepth 100000 in
theorem lk_Answer_46 : LkV "SevenEights$Answer" 46 m_Learner_step 0 2 := ⟨gi 577 rfl rfl, gi 578 rfl rfl, gi 579 rfl rfl, gi 4 rfl rfl, cw_Learner_step, by decide, ⟨by decide, by decide, by decide +kernel⟩, _, rfl, rfl⟩
set_option maxRecDepth 100000 in
theorem cw_Answer_firmestTied : Cond.code m_Answer_firmestTied.1 m_Answer_firmestTied.2.1 m_Answer_firmestTied.2.2.1 m_Answer_firmestTied.2.2.2 ∈ gtb := gi 584 rfl rfl
set_option maxRecDepth 100000 in
theorem lk_Answer_50 : LkS "SevenEights$Answer" 50 m_Answer_firmestTied 3 := ⟨gi 582 rfl rfl, gi 583 rfl rfl, gi 6 rfl rfl, cw_Answer_firmestTied, by decide, ⟨by decide, by decide, by decide +kernel⟩⟩
set_option maxRecDepth 100000 in
theorem fl_Answer_54 : FL "SevenEights$Answer" 54 2 0 := ⟨R_Learner, F_Learner, 5, rfl, by decide, gi 67 rfl rfl, uw_Learner⟩
set_option maxRecDepth 100000 in
theorem lk_Answer_57 : LkV "SevenEights$Answer" 57 m_Learner_feeling 2 2 := ⟨gi 585 rfl rfl, gi 545 rfl rfl, gi 546 rfl rfl, gi 4 rfl rfl, cw_Learner_feeling, by decide, ⟨by decide, by decide, by decide +kernel⟩, _, rfl, rfl⟩
set_option maxRecDepth 100000 in
theorem lk_Answer_60 : LkSN "SevenEights$Answer" 60 m_S_nextDoor 2 := ⟨⟨"SevenEights", List.mem_of_getElem? (i := 14) rfl⟩, gi 503 rfl rfl, gi 1 rfl rfl, cw_S_nextDoor, by decide, ⟨by decide, by decide, by decide +kernel⟩⟩
set_option maxRecDepth 100000 in
theorem fl_Doer_9 : FL "SevenEights$Doer" 9 1 0 := ⟨R_Doer, F_Doer, 6, rfl, by decide, gi 213 rfl rfl, uw_Doer⟩
set_option maxRecDepth 100000 in
theorem fp_Doer_9 : FP "SevenEights$Doer" 9 1 0 .int := ⟨R_Doer, F_Doer, 6, t_Doer, rfl, by decide, gi 213 rfl rfl, uw_Doer, t_Doer_ok, n_Doer, rfl, by decide +kernel⟩
set_option maxRecDepth 100000 in
theorem fl_Doer_15 : FL "SevenEights$Doer" 15 1 1 := ⟨R_Doer, F_Doer, 6, rfl, by decide, gi 214 rfl rfl, uw_Doer⟩
set_option maxRecDepth 100000 in
theorem fp_Doer_15 : FP "SevenEights$Doer" 15 1 1 .int := ⟨R_Doer, F_Doer, 6, t_Doer, rfl, by decide, gi 214 rfl rfl, uw_Doer, t_Doer_ok, n_Doer, rfl, by decide +kernel⟩
set_option maxRecDepth 100000 in
theorem fl_Doer_18 : FL "SevenEights$Doer" 18 1 2 := ⟨R_Doer, F_Doer, 6, rfl, by decide, gi 216 rfl rfl, uw_Doer⟩
set_option maxRecDepth 100000 in
theorem fp_Doer_18 : FP "SevenEights$Doer" 18 1 2 .int := ⟨R_Doer, F_Doer, 6, t_Doer, rfl, by decide, gi 216 rfl rfl, uw_Doer, t_Doer_ok, n_Doer, rfl, by decide +kernel⟩
set_option maxRecDepth 100000 in
theorem fl_Doer_21 : FL "SevenEights$Doer" 21 1 3 := ⟨R_Doer, F_Doer, 6, rfl, by decide, gi 218 rfl rfl, uw_Doer⟩
set_option maxRecDepth 100000 in
theorem fp_Doer_21 : FP "SevenEights$Doer" 21 1 3 .boolean := ⟨R_Doer, F_Doer, 6, t_Doer, rfl, by decide, gi 218 rfl rfl, uw_Doer, t_Doer_ok, n_Doer, rfl, by decide +kernel⟩
set_option maxRecDepth 100000 in
theorem fl_Doer_25 : FL "SevenEights$Doer" 25 1 4 := ⟨R_Doer, F_Doer, 6, rfl, by decide, gi 220 rfl rfl, uw_Doer⟩
set_option maxRecDepth 100000 in
theorem fl_Doer_29 : FL "SevenEights$Doer" 29 1 5 := ⟨R_Doer, F_Doer, 6, rfl, by decide, gi 222 rfl rfl, uw_Doer⟩
set_option maxRecDepth 100000 in
theorem fp_Doer_29 : FP "SevenEights$Doer" 29 1 5 .int := ⟨R_Doer, F_Doer, 6, t_Doer, rfl, by decide, gi 222 rfl rfl, uw_Doer, t_Doer_ok, n_Doer, rfl, by decide +kernel⟩
set_option maxRecDepth 100000 in
theorem fn_Doer_32 : (("SevenEights$Doer", 32, "SevenEights", stn 4, "[I", "SevenEights") : String × Nat × String × String × String × String) ∈ nwf := List.mem_of_getElem? (i := 0) rfl
set_option maxRecDepth 100000 in
theorem fn_Doer_35 : (("SevenEights$Doer", 35, "SevenEights", stn 5, "[I", "SevenEights") : String × Nat × String × String × String × String) ∈ nwf := List.mem_of_getElem? (i := 1) rfl
set_option maxRecDepth 100000 in
theorem fn_Doer_38 : (("SevenEights$Doer", 38, "SevenEights", stn 6, "[I", "SevenEights") : String × Nat × String × String × String × String) ∈ nwf := List.mem_of_getElem? (i := 2) rfl
set_option maxRecDepth 100000 in
theorem fn_Doer_41 : (("SevenEights$Doer", 41, "SevenEights", stn 7, "[I", "SevenEights") : String × Nat × String × String × String × String) ∈ nwf := List.mem_of_getElem? (i := 3) rfl
set_option maxRecDepth 100000 in
theorem fl_Learner_9 : FL "SevenEights$Learner" 9 2 0 := ⟨R_Learner, F_Learner, 5, rfl, by decide, gi 66 rfl rfl, uw_Learner⟩
set_option maxRecDepth 100000 in
theorem fp_Learner_9 : FP "SevenEights$Learner" 9 2 0 .int := ⟨R_Learner, F_Learner, 5, t_Learner, rfl, by decide, gi 66 rfl rfl, uw_Learner, t_Learner_ok, n_Learner, rfl, by decide +kernel⟩
set_option maxRecDepth 100000 in
theorem fl_Learner_15 : FL "SevenEights$Learner" 15 2 1 := ⟨R_Learner, F_Learner, 5, rfl, by decide, gi 69 rfl rfl, uw_Learner⟩
set_option maxRecDepth 100000 in
theorem fp_Learner_15 : FP "SevenEights$Learner" 15 2 1 .int := ⟨R_Learner, F_Learner, 5, t_Learner, rfl, by decide, gi 69 rfl rfl, uw_Learner, t_Learner_ok, n_Learner, rfl, by decide +kernel⟩
set_option maxRecDepth 100000 in
theorem fl_Learner_18 : FL "SevenEights$Learner" 18 2 2 := ⟨R_Learner, F_Learner, 5, rfl, by decide, gi 71 rfl rfl, uw_Learner⟩
set_option maxRecDepth 100000 in
theorem fl_Learner_22 : FL "SevenEights$Learner" 22 2 3 := ⟨R_Learner, F_Learner, 5, rfl, by decide, gi 74 rfl rfl, uw_Learner⟩
set_option maxRecDepth 100000 in
theorem fl_Learner_25 : FL "SevenEights$Learner" 25 2 4 := ⟨R_Learner, F_Learner, 5, rfl, by decide, gi 77 rfl rfl, uw_Learner⟩
set_option maxRecDepth 100000 in
theorem lk_Learner_28 : LkSN "SevenEights$Learner" 28 m_S_firmAtFirst 1 := ⟨⟨"SevenEights", List.mem_of_getElem? (i := 12) rfl⟩, gi 463 rfl rfl, gi 1 rfl rfl, cw_S_firmAtFirst, by decide, ⟨by decide, by decide, by decide +kernel⟩⟩
set_option maxRecDepth 100000 in
theorem ac_Learner_32 : Cond.methodLink "SevenEights$Learner" 32 arraycopyName ∈ gtb ∧ Cond.native arraycopyName ∈ gtb ∧ Cond.static arraycopyName ∈ gtb ∧ Cond.initialized "java/lang/System" ∈ gtb := ⟨gi 645 rfl rfl, gi 446 rfl rfl, gi 445 rfl rfl, gi 18 rfl rfl⟩
set_option maxRecDepth 100000 in
theorem mm_Learner_38 : Cond.methodLink "SevenEights$Learner" 38 Lib.Math.max.name ∈ gtb ∧ Cond.static Lib.Math.max.name ∈ gtb ∧ Cond.initialized "java/lang/Math" ∈ gtb ∧ Cond.code Lib.Math.max.name Lib.Math.max.code 2 (some .int) ∈ gtb := ⟨gi 548 rfl rfl, gi 419 rfl rfl, gi 17 rfl rfl, gi 420 rfl rfl⟩
set_option maxRecDepth 100000 in
theorem mm_Learner_44 : Cond.methodLink "SevenEights$Learner" 44 Lib.Math.min.name ∈ gtb ∧ Cond.static Lib.Math.min.name ∈ gtb ∧ Cond.initialized "java/lang/Math" ∈ gtb ∧ Cond.code Lib.Math.min.name Lib.Math.min.code 2 (some .int) ∈ gtb := ⟨gi 513 rfl rfl, gi 416 rfl rfl, gi 17 rfl rfl, gi 417 rfl rfl⟩
set_option maxRecDepth 100000 in
theorem lk_Learner_47 : LkV "SevenEights$Learner" 47 m_Learner_feeling 2 2 := ⟨gi 561 rfl rfl, gi 545 rfl rfl, gi 546 rfl rfl, gi 4 rfl rfl, cw_Learner_feeling, by decide, ⟨by decide, by decide, by decide +kernel⟩, _, rfl, rfl⟩
set_option maxRecDepth 100000 in
theorem cw_Learner_takesBy : Cond.code m_Learner_takesBy.1 m_Learner_takesBy.2.1 m_Learner_takesBy.2.2.1 m_Learner_takesBy.2.2.2 ∈ gtb := gi 564 rfl rfl
set_option maxRecDepth 100000 in
theorem lk_Learner_50 : LkS "SevenEights$Learner" 50 m_Learner_takesBy 1 := ⟨gi 562 rfl rfl, gi 563 rfl rfl, gi 4 rfl rfl, cw_Learner_takesBy, by decide, ⟨by decide, by decide, by decide +kernel⟩⟩
set_option maxRecDepth 100000 in
theorem lk_Learner_53 : LkSN "SevenEights$Learner" 53 m_S_firmWhenTold 1 := ⟨⟨"SevenEights", List.mem_of_getElem? (i := 15) rfl⟩, gi 607 rfl rfl, gi 1 rfl rfl, cw_S_firmWhenTold, by decide, ⟨by decide, by decide, by decide +kernel⟩⟩
set_option maxRecDepth 100000 in
theorem lk_Learner_56 : LkV "SevenEights$Learner" 56 m_Answer_isProduct 0 0 := ⟨gi 594 rfl rfl, gi 595 rfl rfl, gi 596 rfl rfl, gi 6 rfl rfl, cw_Answer_isProduct, by decide, ⟨by decide, by decide, by decide +kernel⟩, _, rfl, rfl⟩
set_option maxRecDepth 100000 in
theorem fl_Learner_62 : FL "SevenEights$Learner" 62 0 1 := ⟨R_Answer, F_Answer, 4, rfl, by decide, gi 147 rfl rfl, uw_Answer⟩
set_option maxRecDepth 100000 in
theorem fl_Learner_65 : FL "SevenEights$Learner" 65 0 3 := ⟨R_Answer, F_Answer, 4, rfl, by decide, gi 152 rfl rfl, uw_Answer⟩
set_option maxRecDepth 100000 in
theorem cw_S_firmBehindNights : Cond.code m_S_firmBehindNights.1 m_S_firmBehindNights.2.1 m_S_firmBehindNights.2.2.1 m_S_firmBehindNights.2.2.2 ∈ gtb := gi 623 rfl rfl
set_option maxRecDepth 100000 in
theorem lk_Learner_68 : LkSN "SevenEights$Learner" 68 m_S_firmBehindNights 4 := ⟨⟨"SevenEights", List.mem_of_getElem? (i := 16) rfl⟩, gi 622 rfl rfl, gi 1 rfl rfl, cw_S_firmBehindNights, by decide, ⟨by decide, by decide, by decide +kernel⟩⟩
set_option maxRecDepth 100000 in
theorem lk_Learner_72 : LkV "SevenEights$Learner" 72 m_Learner_box 1 2 := ⟨gi 518 rfl rfl, gi 510 rfl rfl, gi 511 rfl rfl, gi 4 rfl rfl, cw_Learner_box, by decide, ⟨by decide, by decide, by decide +kernel⟩, _, rfl, rfl⟩
set_option maxRecDepth 100000 in
theorem fl_Lesson_9 : FL "SevenEights$Lesson" 9 3 0 := ⟨R_Lesson, F_Lesson, 4, rfl, by decide, gi 42 rfl rfl, uw_Lesson⟩
set_option maxRecDepth 100000 in
theorem fl_Lesson_15 : FL "SevenEights$Lesson" 15 3 1 := ⟨R_Lesson, F_Lesson, 4, rfl, by decide, gi 44 rfl rfl, uw_Lesson⟩
set_option maxRecDepth 100000 in
theorem fl_Lesson_18 : FL "SevenEights$Lesson" 18 3 2 := ⟨R_Lesson, F_Lesson, 4, rfl, by decide, gi 46 rfl rfl, uw_Lesson⟩
set_option maxRecDepth 100000 in
theorem fl_Lesson_21 : FL "SevenEights$Lesson" 21 3 3 := ⟨R_Lesson, F_Lesson, 4, rfl, by decide, gi 48 rfl rfl, uw_Lesson⟩
set_option maxRecDepth 100000 in
theorem fp_Lesson_21 : FP "SevenEights$Lesson" 21 3 3 .int := ⟨R_Lesson, F_Lesson, 4, t_Lesson, rfl, by decide, gi 48 rfl rfl, uw_Lesson, t_Lesson_ok, n_Lesson, rfl, by decide +kernel⟩
set_option maxRecDepth 100000 in
theorem ac_Lesson_25 : Cond.methodLink "SevenEights$Lesson" 25 arraycopyName ∈ gtb ∧ Cond.native arraycopyName ∈ gtb ∧ Cond.static arraycopyName ∈ gtb ∧ Cond.initialized "java/lang/System" ∈ gtb := ⟨gi 444 rfl rfl, gi 446 rfl rfl, gi 445 rfl rfl, gi 18 rfl rfl⟩
set_option maxRecDepth 100000 in
theorem fl_Plan_9 : FL "SevenEights$Plan" 9 4 0 := ⟨R_Plan, F_Plan, 5, rfl, by decide, gi 169 rfl rfl, uw_Plan⟩
set_option maxRecDepth 100000 in
theorem fl_Plan_15 : FL "SevenEights$Plan" 15 4 1 := ⟨R_Plan, F_Plan, 5, rfl, by decide, gi 170 rfl rfl, uw_Plan⟩
set_option maxRecDepth 100000 in
theorem fl_Plan_18 : FL "SevenEights$Plan" 18 4 2 := ⟨R_Plan, F_Plan, 5, rfl, by decide, gi 171 rfl rfl, uw_Plan⟩
set_option maxRecDepth 100000 in
theorem fp_Plan_18 : FP "SevenEights$Plan" 18 4 2 .int := ⟨R_Plan, F_Plan, 5, t_Plan, rfl, by decide, gi 171 rfl rfl, uw_Plan, t_Plan_ok, n_Plan, rfl, by decide +kernel⟩
set_option maxRecDepth 100000 in
theorem fl_Plan_22 : FL "SevenEights$Plan" 22 4 3 := ⟨R_Plan, F_Plan, 5, rfl, by decide, gi 173 rfl rfl, uw_Plan⟩
set_option maxRecDepth 100000 in
theorem fp_Plan_22 : FP "SevenEights$Plan" 22 4 3 .int := ⟨R_Plan, F_Plan, 5, t_Plan, rfl, by decide, gi 173 rfl rfl, uw_Plan, t_Plan_ok, n_Plan, rfl, by decide +kernel⟩
set_option maxRecDepth 100000 in
theorem fp_Plan_25 : FP "SevenEights$Plan" 25 4 4 .int := ⟨R_Plan, F_Plan, 5, t_Plan, rfl, by decide, gi 175 rfl rfl, uw_Plan, t_Plan_ok, n_Plan, rfl, by decide +kernel⟩
set_option maxRecDepth 100000 in
theorem fl_Plan_28 : FL "SevenEights$Plan" 28 2 3 := ⟨R_Learner, F_Learner, 5, rfl, by decide, gi 75 rfl rfl, uw_Learner⟩
set_option maxRecDepth 100000 in
theorem fl_Plan_33 : FL "SevenEights$Plan" 33 2 2 := ⟨R_Learner, F_Learner, 5, rfl, by decide, gi 72 rfl rfl, uw_Learner⟩
set_option maxRecDepth 100000 in
theorem lk_Plan_36 : LkSN "SevenEights$Plan" 36 m_S_firmWhenTold 1 := ⟨⟨"SevenEights", List.mem_of_getElem? (i := 17) rfl⟩, gi 607 rfl rfl, gi 1 rfl rfl, cw_S_firmWhenTold, by decide, ⟨by decide, by decide, by decide +kernel⟩⟩
set_option maxRecDepth 100000 in
theorem lk_Plan_40 : LkSN "SevenEights$Plan" 40 m_S_firmBehindNights 4 := ⟨⟨"SevenEights", List.mem_of_getElem? (i := 18) rfl⟩, gi 622 rfl rfl, gi 1 rfl rfl, cw_S_firmBehindNights, by decide, ⟨by decide, by decide, by decide +kernel⟩⟩
set_option maxRecDepth 100000 in
theorem cw_Plan_offer : Cond.code m_Plan_offer.1 m_Plan_offer.2.1 m_Plan_offer.2.2.1 m_Plan_offer.2.2.2 ∈ gtb := gi 678 rfl rfl
set_option maxRecDepth 100000 in
theorem lk_Plan_44 : LkV "SevenEights$Plan" 44 m_Plan_offer 2 4 := ⟨gi 675 rfl rfl, gi 677 rfl rfl, gs (q := (⟨"SevenEights$Plan", "offer", "(II)V"⟩, 5)) 12 rfl rfl, gi 7 rfl rfl, cw_Plan_offer, by decide, ⟨by decide, by decide, by decide +kernel⟩, _, rfl, rfl⟩
set_option maxRecDepth 100000 in
theorem fl_Rows_9 : FL "SevenEights$Rows" 9 5 0 := ⟨R_Rows, F_Rows, 2, rfl, by decide, gi 194 rfl rfl, uw_Rows⟩
set_option maxRecDepth 100000 in
theorem fl_Rows_15 : FL "SevenEights$Rows" 15 5 1 := ⟨R_Rows, F_Rows, 2, rfl, by decide, gi 196 rfl rfl, uw_Rows⟩
set_option maxRecDepth 100000 in
theorem fp_Rows_15 : FP "SevenEights$Rows" 15 5 1 .int := ⟨R_Rows, F_Rows, 2, t_Rows, rfl, by decide, gi 196 rfl rfl, uw_Rows, t_Rows_ok, n_Rows, rfl, by decide +kernel⟩
set_option maxRecDepth 100000 in
theorem lk_Rows_19 : LkSN "SevenEights$Rows" 19 m_S_isWithin 2 := ⟨⟨"SevenEights", List.mem_of_getElem? (i := 19) rfl⟩, gi 452 rfl rfl, gi 1 rfl rfl, cw_S_isWithin, by decide, ⟨by decide, by decide, by decide +kernel⟩⟩
set_option maxRecDepth 100000 in
theorem fl_School_11 : FL "SevenEights$School" 11 6 0 := ⟨R_School, F_School, 6, rfl, by decide, gi 90 rfl rfl, uw_School⟩
set_option maxRecDepth 100000 in
theorem fl_School_17 : FL "SevenEights$School" 17 6 1 := ⟨R_School, F_School, 6, rfl, by decide, gi 92 rfl rfl, uw_School⟩
set_option maxRecDepth 100000 in
theorem fp_School_17 : FP "SevenEights$School" 17 6 1 .int := ⟨R_School, F_School, 6, t_School, rfl, by decide, gi 92 rfl rfl, uw_School, t_School_ok, n_School, rfl, by decide +kernel⟩
set_option maxRecDepth 100000 in
theorem fl_School_21 : FL "SevenEights$School" 21 6 2 := ⟨R_School, F_School, 6, rfl, by decide, gi 94 rfl rfl, uw_School⟩
set_option maxRecDepth 100000 in
theorem fl_School_25 : FL "SevenEights$School" 25 6 3 := ⟨R_School, F_School, 6, rfl, by decide, gi 96 rfl rfl, uw_School⟩
set_option maxRecDepth 100000 in
theorem fp_School_25 : FP "SevenEights$School" 25 6 3 .int := ⟨R_School, F_School, 6, t_School, rfl, by decide, gi 96 rfl rfl, uw_School, t_School_ok, n_School, rfl, by decide +kernel⟩
set_option maxRecDepth 100000 in
theorem fl_School_28 : FL "SevenEights$School" 28 6 4 := ⟨R_School, F_School, 6, rfl, by decide, gi 98 rfl rfl, uw_School⟩
set_option maxRecDepth 100000 in
theorem fp_School_28 : FP "SevenEights$School" 28 6 4 .int := ⟨R_School, F_School, 6, t_School, rfl, by decide, gi 98 rfl rfl, uw_School, t_School_ok, n_School, rfl, by decide +kernel⟩
set_option maxRecDepth 100000 in
theorem fl_School_34 : FL "SevenEights$School" 34 6 5 := ⟨R_School, F_School, 6, rfl, by decide, gi 100 rfl rfl, uw_School⟩
set_option maxRecDepth 100000 in
theorem cw_Learner_start : Cond.code m_Learner_start.1 m_Learner_start.2.1 m_Learner_start.2.2.1 m_Learner_start.2.2.2 ∈ gtb := gi 461 rfl rfl
set_option maxRecDepth 100000 in
theorem lk_School_39 : LkV "SevenEights$School" 39 m_Learner_start 2 2 := ⟨gi 458 rfl rfl, gi 459 rfl rfl, gi 460 rfl rfl, gi 4 rfl rfl, cw_Learner_start, by decide, ⟨by decide, by decide, by decide +kernel⟩, _, rfl, rfl⟩
set_option maxRecDepth 100000 in
theorem lk_School_43 : LkV "SevenEights$School" 43 m_Learner_sleep 2 2 := ⟨gi 617 rfl rfl, gi 618 rfl rfl, gi 619 rfl rfl, gi 4 rfl rfl, cw_Learner_sleep, by decide, ⟨by decide, by decide, by decide +kernel⟩, _, rfl, rfl⟩
set_option maxRecDepth 100000 in
theorem lk_School_46 : LkV "SevenEights$School" 46 m_Learner_copyFrom 1 2 := ⟨gi 876 rfl rfl, gi 642 rfl rfl, gi 643 rfl rfl, gi 4 rfl rfl, cw_Learner_copyFrom, by decide, ⟨by decide, by decide, by decide +kernel⟩, _, rfl, rfl⟩
set_option maxRecDepth 100000 in
theorem ac_School_50 : Cond.methodLink "SevenEights$School" 50 arraycopyName ∈ gtb ∧ Cond.native arraycopyName ∈ gtb ∧ Cond.static arraycopyName ∈ gtb ∧ Cond.initialized "java/lang/System" ∈ gtb := ⟨gi 877 rfl rfl, gi 446 rfl rfl, gi 445 rfl rfl, gi 18 rfl rfl⟩
set_option maxRecDepth 100000 in
theorem lk_School_56 : LkV "SevenEights$School" 56 m_Lesson_copyFrom 1 3 := ⟨gi 878 rfl rfl, gi 441 rfl rfl, gi 442 rfl rfl, gi 3 rfl rfl, cw_Lesson_copyFrom, by decide, ⟨by decide, by decide, by decide +kernel⟩, _, rfl, rfl⟩
set_option maxRecDepth 100000 in
theorem fl_Sheet_9 : FL "SevenEights$Sheet" 9 7 0 := ⟨R_Sheet, F_Sheet, 3, rfl, by decide, gi 242 rfl rfl, uw_Sheet⟩
set_option maxRecDepth 100000 in
theorem fp_Sheet_9 : FP "SevenEights$Sheet" 9 7 0 .int := ⟨R_Sheet, F_Sheet, 3, t_Sheet, rfl, by decide, gi 242 rfl rfl, uw_Sheet, t_Sheet_ok, n_Sheet, rfl, by decide +kernel⟩
set_option maxRecDepth 100000 in
theorem fp_Sheet_15 : FP "SevenEights$Sheet" 15 7 1 .int := ⟨R_Sheet, F_Sheet, 3, t_Sheet, rfl, by decide, gi 245 rfl rfl, uw_Sheet, t_Sheet_ok, n_Sheet, rfl, by decide +kernel⟩
set_option maxRecDepth 100000 in
theorem fl_Sheet_18 : FL "SevenEights$Sheet" 18 7 2 := ⟨R_Sheet, F_Sheet, 3, rfl, by decide, gi 248 rfl rfl, uw_Sheet⟩
set_option maxRecDepth 100000 in
theorem fp_Shelf_9 : FP "SevenEights$Shelf" 9 8 0 .int := ⟨R_Shelf, F_Shelf, 3, t_Shelf, rfl, by decide, gi 263 rfl rfl, uw_Shelf, t_Shelf_ok, n_Shelf, rfl, by decide +kernel⟩
set_option maxRecDepth 100000 in
theorem fl_Shelf_15 : FL "SevenEights$Shelf" 15 8 1 := ⟨R_Shelf, F_Shelf, 3, rfl, by decide, gi 265 rfl rfl, uw_Shelf⟩
set_option maxRecDepth 100000 in
theorem fp_Shelf_15 : FP "SevenEights$Shelf" 15 8 1 .int := ⟨R_Shelf, F_Shelf, 3, t_Shelf, rfl, by decide, gi 265 rfl rfl, uw_Shelf, t_Shelf_ok, n_Shelf, rfl, by decide +kernel⟩
set_option maxRecDepth 100000 in
theorem fp_Shelf_18 : FP "SevenEights$Shelf" 18 8 2 .int := ⟨R_Shelf, F_Shelf, 3, t_Shelf, rfl, by decide, gi 267 rfl rfl, uw_Shelf, t_Shelf_ok, n_Shelf, rfl, by decide +kernel⟩
set_option maxRecDepth 100000 in
theorem lk_Shelf_21 : LkV "SevenEights$Shelf" 21 m_Shelf_holdNothing 0 8 := ⟨gi 803 rfl rfl, gi 804 rfl rfl, gi 805 rfl rfl, gi 11 rfl rfl, cw_Shelf_holdNothing, by decide, ⟨by decide, by decide, by decide +kernel⟩, _, rfl, rfl⟩
set_option maxRecDepth 100000 in
theorem fl_Shelf_24 : FL "SevenEights$Shelf" 24 7 0 := ⟨R_Sheet, F_Sheet, 3, rfl, by decide, gi 243 rfl rfl, uw_Sheet⟩
set_option maxRecDepth 100000 in
theorem fl_Shelf_27 : FL "SevenEights$Shelf" 27 7 1 := ⟨R_Sheet, F_Sheet, 3, rfl, by decide, gi 246 rfl rfl, uw_Sheet⟩
set_option maxRecDepth 100000 in
theorem fl_Text_9 : FL "SevenEights$Text" 9 9 0 := ⟨R_Text, F_Text, 3, rfl, by decide, gi 121 rfl rfl, uw_Text⟩
set_option maxRecDepth 100000 in
theorem fl_Text_15 : FL "SevenEights$Text" 15 9 1 := ⟨R_Text, F_Text, 3, rfl, by decide, gi 122 rfl rfl, uw_Text⟩
set_option maxRecDepth 100000 in
theorem fp_Text_15 : FP "SevenEights$Text" 15 9 1 .int := ⟨R_Text, F_Text, 3, t_Text, rfl, by decide, gi 122 rfl rfl, uw_Text, t_Text_ok, n_Text, rfl, by decide +kernel⟩
set_option maxRecDepth 100000 in
theorem fl_Text_19 : FL "SevenEights$Text" 19 9 2 := ⟨R_Text, F_Text, 3, rfl, by decide, gi 124 rfl rfl, uw_Text⟩
set_option maxRecDepth 100000 in
theorem fp_Text_19 : FP "SevenEights$Text" 19 9 2 .int := ⟨R_Text, F_Text, 3, t_Text, rfl, by decide, gi 124 rfl rfl, uw_Text, t_Text_ok, n_Text, rfl, by decide +kernel⟩
set_option maxRecDepth 100000 in
theorem fp_Text_22 : FP "SevenEights$Text" 22 3 3 .int := ⟨R_Lesson, F_Lesson, 4, t_Lesson, rfl, by decide, gi 49 rfl rfl, uw_Lesson, t_Lesson_ok, n_Lesson, rfl, by decide +kernel⟩
set_option maxRecDepth 100000 in
theorem cw_Text_skipBlanks : Cond.code m_Text_skipBlanks.1 m_Text_skipBlanks.2.1 m_Text_skipBlanks.2.2.1 m_Text_skipBlanks.2.2.2 ∈ gtb := gi 338 rfl rfl
set_option maxRecDepth 100000 in
theorem lk_Text_27 : LkV "SevenEights$Text" 27 m_Text_skipBlanks 0 9 := ⟨gi 335 rfl rfl, gi 337 rfl rfl, gs (q := (⟨"SevenEights$Text", "skipBlanks", "()V"⟩, 3)) 0 rfl rfl, gi 5 rfl rfl, cw_Text_skipBlanks, by decide, ⟨by decide, by decide, by decide +kernel⟩, _, rfl, rfl⟩
set_option maxRecDepth 100000 in
theorem cw_Text_readItem : Cond.code m_Text_readItem.1 m_Text_readItem.2.1 m_Text_readItem.2.2.1 m_Text_readItem.2.2.2 ∈ gtb := gi 342 rfl rfl
set_option maxRecDepth 100000 in
theorem lk_Text_30 : LkV "SevenEights$Text" 30 m_Text_readItem 1 9 := ⟨gi 339 rfl rfl, gi 341 rfl rfl, gs (q := (⟨"SevenEights$Text", "readItem", "(LSevenEights$Lesson;)Z"⟩, 3)) 1 rfl rfl, gi 5 rfl rfl, cw_Text_readItem, by decide, ⟨by decide, by decide, by decide +kernel⟩, _, rfl, rfl⟩
set_option maxRecDepth 100000 in
theorem cw_Text_isNextName : Cond.code m_Text_isNextName.1 m_Text_isNextName.2.1 m_Text_isNextName.2.2.1 m_Text_isNextName.2.2.2 ∈ gtb := gi 347 rfl rfl
set_option maxRecDepth 100000 in
theorem lk_Text_36 : LkV "SevenEights$Text" 36 m_Text_isNextName 1 9 := ⟨gi 344 rfl rfl, gi 346 rfl rfl, gs (q := (⟨"SevenEights$Text", "isNextName", "(Ljava/lang/String;)Z"⟩, 3)) 2 rfl rfl, gi 5 rfl rfl, cw_Text_isNextName, by decide, ⟨by decide, by decide, by decide +kernel⟩, _, rfl, rfl⟩
set_option maxRecDepth 100000 in
theorem cw_Text_readAsk : Cond.code m_Text_readAsk.1 m_Text_readAsk.2.1 m_Text_readAsk.2.2.1 m_Text_readAsk.2.2.2 ∈ gtb := gi 403 rfl rfl
set_option maxRecDepth 100000 in
theorem lk_Text_40 : LkV "SevenEights$Text" 40 m_Text_readAsk 1 9 := ⟨gi 400 rfl rfl, gi 402 rfl rfl, gs (q := (⟨"SevenEights$Text", "readAsk", "(LSevenEights$Lesson;)Z"⟩, 3)) 4 rfl rfl, gi 5 rfl rfl, cw_Text_readAsk, by decide, ⟨by decide, by decide, by decide +kernel⟩, _, rfl, rfl⟩
set_option maxRecDepth 100000 in
theorem cw_Text_readTell : Cond.code m_Text_readTell.1 m_Text_readTell.2.1 m_Text_readTell.2.2.1 m_Text_readTell.2.2.2 ∈ gtb := gi 434 rfl rfl
set_option maxRecDepth 100000 in
theorem lk_Text_45 : LkV "SevenEights$Text" 45 m_Text_readTell 1 9 := ⟨gi 431 rfl rfl, gi 433 rfl rfl, gs (q := (⟨"SevenEights$Text", "readTell", "(LSevenEights$Lesson;)Z"⟩, 3)) 8 rfl rfl, gi 5 rfl rfl, cw_Text_readTell, by decide, ⟨by decide, by decide, by decide +kernel⟩, _, rfl, rfl⟩
set_option maxRecDepth 100000 in
theorem cw_Text_readRest : Cond.code m_Text_readRest.1 m_Text_readRest.2.1 m_Text_readRest.2.2.1 m_Text_readRest.2.2.2 ∈ gtb := gi 439 rfl rfl
set_option maxRecDepth 100000 in
theorem lk_Text_50 : LkV "SevenEights$Text" 50 m_Text_readRest 1 9 := ⟨gi 436 rfl rfl, gi 438 rfl rfl, gs (q := (⟨"SevenEights$Text", "readRest", "(LSevenEights$Lesson;)Z"⟩, 3)) 9 rfl rfl, gi 5 rfl rfl, cw_Text_readRest, by decide, ⟨by decide, by decide, by decide +kernel⟩, _, rfl, rfl⟩
set_option maxRecDepth 100000 in
theorem cw_Text_readPair : Cond.code m_Text_readPair.1 m_Text_readPair.2.1 m_Text_readPair.2.2.1 m_Text_readPair.2.2.2 ∈ gtb := gi 407 rfl rfl
set_option maxRecDepth 100000 in
theorem lk_Text_53 : LkV "SevenEights$Text" 53 m_Text_readPair 0 9 := ⟨gi 404 rfl rfl, gi 406 rfl rfl, gs (q := (⟨"SevenEights$Text", "readPair", "()I"⟩, 3)) 5 rfl rfl, gi 5 rfl rfl, cw_Text_readPair, by decide, ⟨by decide, by decide, by decide +kernel⟩, _, rfl, rfl⟩
set_option maxRecDepth 100000 in
theorem cw_Text_readNumber : Cond.code m_Text_readNumber.1 m_Text_readNumber.2.1 m_Text_readNumber.2.2.1 m_Text_readNumber.2.2.2 ∈ gtb := gi 411 rfl rfl
set_option maxRecDepth 100000 in
theorem lk_Text_59 : LkV "SevenEights$Text" 59 m_Text_readNumber 2 9 := ⟨gi 408 rfl rfl, gi 410 rfl rfl, gs (q := (⟨"SevenEights$Text", "readNumber", "(II)I"⟩, 3)) 6 rfl rfl, gi 5 rfl rfl, cw_Text_readNumber, by decide, ⟨by decide, by decide, by decide +kernel⟩, _, rfl, rfl⟩
set_option maxRecDepth 100000 in
theorem cw_Text_isNextSemicolon : Cond.code m_Text_isNextSemicolon.1 m_Text_isNextSemicolon.2.1 m_Text_isNextSemicolon.2.2.1 m_Text_isNextSemicolon.2.2.2 ∈ gtb := gi 425 rfl rfl
set_option maxRecDepth 100000 in
theorem lk_Text_63 : LkV "SevenEights$Text" 63 m_Text_isNextSemicolon 0 9 := ⟨gi 422 rfl rfl, gi 424 rfl rfl, gs (q := (⟨"SevenEights$Text", "isNextSemicolon", "()Z"⟩, 3)) 7 rfl rfl, gi 5 rfl rfl, cw_Text_isNextSemicolon, by decide, ⟨by decide, by decide, by decide +kernel⟩, _, rfl, rfl⟩
set_option maxRecDepth 100000 in
theorem cw_Lesson_append : Cond.code m_Lesson_append.1 m_Lesson_append.2.1 m_Lesson_append.2.2.1 m_Lesson_append.2.2.2 ∈ gtb := gi 429 rfl rfl
set_option maxRecDepth 100000 in
theorem lk_Text_67 : LkV "SevenEights$Text" 67 m_Lesson_append 3 3 := ⟨gi 426 rfl rfl, gi 427 rfl rfl, gi 428 rfl rfl, gi 3 rfl rfl, cw_Lesson_append, by decide, ⟨by decide, by decide, by decide +kernel⟩, _, rfl, rfl⟩
set_option maxRecDepth 100000 in
theorem lk_Text_71 : LkSN "SevenEights$Text" 71 m_S_pairAt 2 := ⟨⟨"SevenEights", List.mem_of_getElem? (i := 11) rfl⟩, gi 413 rfl rfl, gi 1 rfl rfl, cw_S_pairAt, by decide, ⟨by decide, by decide, by decide +kernel⟩⟩
set_option maxRecDepth 100000 in
theorem cw_Text_endOfRow : Cond.code m_Text_endOfRow.1 m_Text_endOfRow.2.1 m_Text_endOfRow.2.2.1 m_Text_endOfRow.2.2.2 ∈ gtb := gi 351 rfl rfl
set_option maxRecDepth 100000 in
theorem lk_Text_74 : LkV "SevenEights$Text" 74 m_Text_endOfRow 2 9 := ⟨gi 348 rfl rfl, gi 350 rfl rfl, gs (q := (⟨"SevenEights$Text", "endOfRow", "(CC)I"⟩, 3)) 3 rfl rfl, gi 5 rfl rfl, cw_Text_endOfRow, by decide, ⟨by decide, by decide, by decide +kernel⟩, _, rfl, rfl⟩
set_option maxRecDepth 100000 in
theorem cw_JString_length : Cond.code m_JString_length.1 m_JString_length.2.1 m_JString_length.2.2.1 m_JString_length.2.2.2 ∈ gtb := gi 355 rfl rfl
set_option maxRecDepth 100000 in
theorem cw_JString_charAt : Cond.code m_JString_charAt.1 m_JString_charAt.2.1 m_JString_charAt.2.2.1 m_JString_charAt.2.2.2 ∈ gtb := gi 365 rfl rfl
set_option maxRecDepth 100000 in
theorem kc_L_13 : Cond.constantLong "SevenEightsLaw" 13 (4294967295) ∈ gtb := gi 1459 rfl rfl
set_option maxRecDepth 100000 in
theorem cw_S_feed : Cond.code m_S_feed.1 m_S_feed.2.1 m_S_feed.2.2.1 m_S_feed.2.2.2 ∈ gtb := gi 322 rfl rfl
set_option maxRecDepth 100000 in
theorem lk_L_15 : LkV "SevenEightsLaw" 15 m_S_feed 2 10 := ⟨gi 319 rfl rfl, gi 320 rfl rfl, gi 321 rfl rfl, gi 1 rfl rfl, cw_S_feed, by decide, ⟨by decide, by decide, by decide +kernel⟩, _, rfl, rfl⟩
set_option maxRecDepth 100000 in
theorem cw_M_feed : Cond.code m_M_feed.1 m_M_feed.2.1 m_M_feed.2.2.1 m_M_feed.2.2.2 ∈ gtb := gi 1262 rfl rfl
set_option maxRecDepth 100000 in
theorem lk_L_19 : LkV "SevenEightsLaw" 19 m_M_feed 2 11 := ⟨gi 1259 rfl rfl, gi 1260 rfl rfl, gi 1261 rfl rfl, gi 12 rfl rfl, cw_M_feed, by decide, ⟨by decide, by decide, by decide +kernel⟩, _, rfl, rfl⟩
set_option maxRecDepth 100000 in
theorem cw_S_lesson : Cond.code m_S_lesson.1 m_S_lesson.2.1 m_S_lesson.2.2.1 m_S_lesson.2.2.2 ∈ gtb := gi 330 rfl rfl
set_option maxRecDepth 100000 in
theorem lk_L_20 : LkV "SevenEightsLaw" 20 m_S_lesson 0 10 := ⟨gi 327 rfl rfl, gi 328 rfl rfl, gi 329 rfl rfl, gi 1 rfl rfl, cw_S_lesson, by decide, ⟨by decide, by decide, by decide +kernel⟩, _, rfl, rfl⟩
set_option maxRecDepth 100000 in
theorem cw_M_lesson : Cond.code m_M_lesson.1 m_M_lesson.2.1 m_M_lesson.2.2.1 m_M_lesson.2.2.2 ∈ gtb := gi 1267 rfl rfl
set_option maxRecDepth 100000 in
theorem lk_L_24 : LkV "SevenEightsLaw" 24 m_M_lesson 0 11 := ⟨gi 1264 rfl rfl, gi 1265 rfl rfl, gi 1266 rfl rfl, gi 12 rfl rfl, cw_M_lesson, by decide, ⟨by decide, by decide, by decide +kernel⟩, _, rfl, rfl⟩
set_option maxRecDepth 100000 in
theorem cw_S_learner : Cond.code m_S_learner.1 m_S_learner.2.1 m_S_learner.2.2.1 m_S_learner.2.2.2 ∈ gtb := gi 450 rfl rfl
set_option maxRecDepth 100000 in
theorem lk_L_25 : LkV "SevenEightsLaw" 25 m_S_learner 2 10 := ⟨gi 447 rfl rfl, gi 448 rfl rfl, gi 449 rfl rfl, gi 1 rfl rfl, cw_S_learner, by decide, ⟨by decide, by decide, by decide +kernel⟩, _, rfl, rfl⟩
set_option maxRecDepth 100000 in
theorem cw_M_learner : Cond.code m_M_learner.1 m_M_learner.2.1 m_M_learner.2.2.1 m_M_learner.2.2.2 ∈ gtb := gi 1056 rfl rfl
set_option maxRecDepth 100000 in
theorem lk_L_29 : LkV "SevenEightsLaw" 29 m_M_learner 2 11 := ⟨gi 1053 rfl rfl, gi 1054 rfl rfl, gi 1055 rfl rfl, gi 12 rfl rfl, cw_M_learner, by decide, ⟨by decide, by decide, by decide +kernel⟩, _, rfl, rfl⟩
set_option maxRecDepth 100000 in
theorem cw_S_learnerOf : Cond.code m_S_learnerOf.1 m_S_learnerOf.2.1 m_S_learnerOf.2.2.1 m_S_learnerOf.2.2.2 ∈ gtb := gi 472 rfl rfl
set_option maxRecDepth 100000 in
theorem lk_L_30 : LkV "SevenEightsLaw" 30 m_S_learnerOf 2 10 := ⟨gi 469 rfl rfl, gi 470 rfl rfl, gi 471 rfl rfl, gi 1 rfl rfl, cw_S_learnerOf, by decide, ⟨by decide, by decide, by decide +kernel⟩, _, rfl, rfl⟩
set_option maxRecDepth 100000 in
theorem cw_M_learnerOf : Cond.code m_M_learnerOf.1 m_M_learnerOf.2.1 m_M_learnerOf.2.2.1 m_M_learnerOf.2.2.2 ∈ gtb := gi 1064 rfl rfl
set_option maxRecDepth 100000 in
theorem lk_L_33 : LkV "SevenEightsLaw" 33 m_M_learnerOf 2 11 := ⟨gi 1061 rfl rfl, gi 1062 rfl rfl, gi 1063 rfl rfl, gi 12 rfl rfl, cw_M_learnerOf, by decide, ⟨by decide, by decide, by decide +kernel⟩, _, rfl, rfl⟩
set_option maxRecDepth 100000 in
theorem cw_S_pair : Cond.code m_S_pair.1 m_S_pair.2.1 m_S_pair.2.2.1 m_S_pair.2.2.2 ∈ gtb := gi 484 rfl rfl
set_option maxRecDepth 100000 in
theorem lk_L_34 : LkV "SevenEightsLaw" 34 m_S_pair 2 10 := ⟨gi 481 rfl rfl, gi 482 rfl rfl, gi 483 rfl rfl, gi 1 rfl rfl, cw_S_pair, by decide, ⟨by decide, by decide, by decide +kernel⟩, _, rfl, rfl⟩
set_option maxRecDepth 100000 in
theorem cw_M_pair : Cond.code m_M_pair.1 m_M_pair.2.1 m_M_pair.2.2.1 m_M_pair.2.2.2 ∈ gtb := gi 1016 rfl rfl
set_option maxRecDepth 100000 in
theorem lk_L_37 : LkV "SevenEightsLaw" 37 m_M_pair 2 11 := ⟨gi 1013 rfl rfl, gi 1014 rfl rfl, gi 1015 rfl rfl, gi 12 rfl rfl, cw_M_pair, by decide, ⟨by decide, by decide, by decide +kernel⟩, _, rfl, rfl⟩
set_option maxRecDepth 100000 in
theorem cw_S_pairOf : Cond.code m_S_pairOf.1 m_S_pairOf.2.1 m_S_pairOf.2.2.1 m_S_pairOf.2.2.2 ∈ gtb := gi 489 rfl rfl
set_option maxRecDepth 100000 in
theorem lk_L_38 : LkV "SevenEightsLaw" 38 m_S_pairOf 2 10 := ⟨gi 486 rfl rfl, gi 487 rfl rfl, gi 488 rfl rfl, gi 1 rfl rfl, cw_S_pairOf, by decide, ⟨by decide, by decide, by decide +kernel⟩, _, rfl, rfl⟩
set_option maxRecDepth 100000 in
theorem cw_M_pairOf : Cond.code m_M_pairOf.1 m_M_pairOf.2.1 m_M_pairOf.2.2.1 m_M_pairOf.2.2.2 ∈ gtb := gi 1026 rfl rfl
set_option maxRecDepth 100000 in
theorem lk_L_41 : LkV "SevenEightsLaw" 41 m_M_pairOf 2 11 := ⟨gi 1023 rfl rfl, gi 1024 rfl rfl, gi 1025 rfl rfl, gi 12 rfl rfl, cw_M_pairOf, by decide, ⟨by decide, by decide, by decide +kernel⟩, _, rfl, rfl⟩
set_option maxRecDepth 100000 in
theorem cw_S_tied : Cond.code m_S_tied.1 m_S_tied.2.1 m_S_tied.2.2.1 m_S_tied.2.2.2 ∈ gtb := gi 500 rfl rfl
set_option maxRecDepth 100000 in
theorem lk_L_42 : LkV "SevenEightsLaw" 42 m_S_tied 1 10 := ⟨gi 497 rfl rfl, gi 498 rfl rfl, gi 499 rfl rfl, gi 1 rfl rfl, cw_S_tied, by decide, ⟨by decide, by decide, by decide +kernel⟩, _, rfl, rfl⟩
set_option maxRecDepth 100000 in
theorem cw_M_tied : Cond.code m_M_tied.1 m_M_tied.2.1 m_M_tied.2.2.1 m_M_tied.2.2.2 ∈ gtb := gi 1045 rfl rfl
set_option maxRecDepth 100000 in
theorem lk_L_46 : LkV "SevenEightsLaw" 46 m_M_tied 1 11 := ⟨gi 1042 rfl rfl, gi 1043 rfl rfl, gi 1044 rfl rfl, gi 12 rfl rfl, cw_M_tied, by decide, ⟨by decide, by decide, by decide +kernel⟩, _, rfl, rfl⟩
set_option maxRecDepth 100000 in
theorem cw_S_head : Cond.code m_S_head.1 m_S_head.2.1 m_S_head.2.2.1 m_S_head.2.2.2 ∈ gtb := gi 508 rfl rfl
set_option maxRecDepth 100000 in
theorem lk_L_47 : LkV "SevenEightsLaw" 47 m_S_head 3 10 := ⟨gi 505 rfl rfl, gi 506 rfl rfl, gi 507 rfl rfl, gi 1 rfl rfl, cw_S_head, by decide, ⟨by decide, by decide, by decide +kernel⟩, _, rfl, rfl⟩
set_option maxRecDepth 100000 in
theorem cw_M_head : Cond.code m_M_head.1 m_M_head.2.1 m_M_head.2.2.1 m_M_head.2.2.2 ∈ gtb := gi 1088 rfl rfl
set_option maxRecDepth 100000 in
theorem lk_L_51 : LkV "SevenEightsLaw" 51 m_M_head 3 11 := ⟨gi 1085 rfl rfl, gi 1086 rfl rfl, gi 1087 rfl rfl, gi 12 rfl rfl, cw_M_head, by decide, ⟨by decide, by decide, by decide +kernel⟩, _, rfl, rfl⟩
set_option maxRecDepth 100000 in
theorem cw_S_firm : Cond.code m_S_firm.1 m_S_firm.2.1 m_S_firm.2.2.1 m_S_firm.2.2.2 ∈ gtb := gi 522 rfl rfl
set_option maxRecDepth 100000 in
theorem lk_L_52 : LkV "SevenEightsLaw" 52 m_S_firm 3 10 := ⟨gi 519 rfl rfl, gi 520 rfl rfl, gi 521 rfl rfl, gi 1 rfl rfl, cw_S_firm, by decide, ⟨by decide, by decide, by decide +kernel⟩, _, rfl, rfl⟩
set_option maxRecDepth 100000 in
theorem cw_M_firm : Cond.code m_M_firm.1 m_M_firm.2.1 m_M_firm.2.2.1 m_M_firm.2.2.2 ∈ gtb := gi 1108 rfl rfl
set_option maxRecDepth 100000 in
theorem lk_L_55 : LkV "SevenEightsLaw" 55 m_M_firm 3 11 := ⟨gi 1105 rfl rfl, gi 1106 rfl rfl, gi 1107 rfl rfl, gi 12 rfl rfl, cw_M_firm, by decide, ⟨by decide, by decide, by decide +kernel⟩, _, rfl, rfl⟩
set_option maxRecDepth 100000 in
theorem cw_S_rights : Cond.code m_S_rights.1 m_S_rights.2.1 m_S_rights.2.2.1 m_S_rights.2.2.2 ∈ gtb := gi 526 rfl rfl
set_option maxRecDepth 100000 in
theorem lk_L_56 : LkV "SevenEightsLaw" 56 m_S_rights 3 10 := ⟨gi 523 rfl rfl, gi 524 rfl rfl, gi 525 rfl rfl, gi 1 rfl rfl, cw_S_rights, by decide, ⟨by decide, by decide, by decide +kernel⟩, _, rfl, rfl⟩
set_option maxRecDepth 100000 in
theorem cw_M_rights : Cond.code m_M_rights.1 m_M_rights.2.1 m_M_rights.2.2.1 m_M_rights.2.2.2 ∈ gtb := gi 1112 rfl rfl
set_option maxRecDepth 100000 in
theorem lk_L_59 : LkV "SevenEightsLaw" 59 m_M_rights 3 11 := ⟨gi 1109 rfl rfl, gi 1110 rfl rfl, gi 1111 rfl rfl, gi 12 rfl rfl, cw_M_rights, by decide, ⟨by decide, by decide, by decide +kernel⟩, _, rfl, rfl⟩
set_option maxRecDepth 100000 in
theorem cw_S_set : Cond.code m_S_set.1 m_S_set.2.1 m_S_set.2.2.1 m_S_set.2.2.2 ∈ gtb := gi 530 rfl rfl
set_option maxRecDepth 100000 in
theorem lk_L_60 : LkV "SevenEightsLaw" 60 m_S_set 2 10 := ⟨gi 527 rfl rfl, gi 528 rfl rfl, gi 529 rfl rfl, gi 1 rfl rfl, cw_S_set, by decide, ⟨by decide, by decide, by decide +kernel⟩, _, rfl, rfl⟩
set_option maxRecDepth 100000 in
theorem cw_M_set : Cond.code m_M_set.1 m_M_set.2.1 m_M_set.2.2.1 m_M_set.2.2.2 ∈ gtb := gi 1116 rfl rfl
set_option maxRecDepth 100000 in
theorem lk_L_63 : LkV "SevenEightsLaw" 63 m_M_set 2 11 := ⟨gi 1113 rfl rfl, gi 1114 rfl rfl, gi 1115 rfl rfl, gi 12 rfl rfl, cw_M_set, by decide, ⟨by decide, by decide, by decide +kernel⟩, _, rfl, rfl⟩
set_option maxRecDepth 100000 in
theorem cw_S_day : Cond.code m_S_day.1 m_S_day.2.1 m_S_day.2.2.1 m_S_day.2.2.2 ∈ gtb := gi 536 rfl rfl
set_option maxRecDepth 100000 in
theorem lk_L_64 : LkV "SevenEightsLaw" 64 m_S_day 0 10 := ⟨gi 533 rfl rfl, gi 534 rfl rfl, gi 535 rfl rfl, gi 1 rfl rfl, cw_S_day, by decide, ⟨by decide, by decide, by decide +kernel⟩, _, rfl, rfl⟩
set_option maxRecDepth 100000 in
theorem cw_M_day : Cond.code m_M_day.1 m_M_day.2.1 m_M_day.2.2.1 m_M_day.2.2.2 ∈ gtb := gi 1120 rfl rfl
set_option maxRecDepth 100000 in
theorem lk_L_67 : LkV "SevenEightsLaw" 67 m_M_day 0 11 := ⟨gi 1117 rfl rfl, gi 1118 rfl rfl, gi 1119 rfl rfl, gi 12 rfl rfl, cw_M_day, by decide, ⟨by decide, by decide, by decide +kernel⟩, _, rfl, rfl⟩
set_option maxRecDepth 100000 in
theorem cw_S_feel : Cond.code m_S_feel.1 m_S_feel.2.1 m_S_feel.2.2.1 m_S_feel.2.2.2 ∈ gtb := gi 540 rfl rfl
set_option maxRecDepth 100000 in
theorem lk_L_68 : LkV "SevenEightsLaw" 68 m_S_feel 3 10 := ⟨gi 537 rfl rfl, gi 538 rfl rfl, gi 539 rfl rfl, gi 1 rfl rfl, cw_S_feel, by decide, ⟨by decide, by decide, by decide +kernel⟩, _, rfl, rfl⟩
set_option maxRecDepth 100000 in
theorem cw_M_feel : Cond.code m_M_feel.1 m_M_feel.2.1 m_M_feel.2.2.1 m_M_feel.2.2.2 ∈ gtb := gi 1124 rfl rfl
set_option maxRecDepth 100000 in
theorem lk_L_71 : LkV "SevenEightsLaw" 71 m_M_feel 3 11 := ⟨gi 1121 rfl rfl, gi 1122 rfl rfl, gi 1123 rfl rfl, gi 12 rfl rfl, cw_M_feel, by decide, ⟨by decide, by decide, by decide +kernel⟩, _, rfl, rfl⟩
set_option maxRecDepth 100000 in
theorem cw_S_would : Cond.code m_S_would.1 m_S_would.2.1 m_S_would.2.2.1 m_S_would.2.2.2 ∈ gtb := gi 552 rfl rfl
set_option maxRecDepth 100000 in
theorem lk_L_72 : LkV "SevenEightsLaw" 72 m_S_would 4 10 := ⟨gi 549 rfl rfl, gi 550 rfl rfl, gi 551 rfl rfl, gi 1 rfl rfl, cw_S_would, by decide, ⟨by decide, by decide, by decide +kernel⟩, _, rfl, rfl⟩
set_option maxRecDepth 100000 in
theorem cw_M_would : Cond.code m_M_would.1 m_M_would.2.1 m_M_would.2.2.1 m_M_would.2.2.2 ∈ gtb := gi 1138 rfl rfl
set_option maxRecDepth 100000 in
theorem lk_L_76 : LkV "SevenEightsLaw" 76 m_M_would 4 11 := ⟨gi 1135 rfl rfl, gi 1136 rfl rfl, gi 1137 rfl rfl, gi 12 rfl rfl, cw_M_would, by decide, ⟨by decide, by decide, by decide +kernel⟩, _, rfl, rfl⟩
set_option maxRecDepth 100000 in
theorem cw_S_ask : Cond.code m_S_ask.1 m_S_ask.2.1 m_S_ask.2.2.1 m_S_ask.2.2.2 ∈ gtb := gi 589 rfl rfl
set_option maxRecDepth 100000 in
theorem lk_L_77 : LkV "SevenEightsLaw" 77 m_S_ask 3 10 := ⟨gi 586 rfl rfl, gi 587 rfl rfl, gi 588 rfl rfl, gi 1 rfl rfl, cw_S_ask, by decide, ⟨by decide, by decide, by decide +kernel⟩, _, rfl, rfl⟩
set_option maxRecDepth 100000 in
theorem cw_M_ask : Cond.code m_M_ask.1 m_M_ask.2.1 m_M_ask.2.2.1 m_M_ask.2.2.2 ∈ gtb := gi 1169 rfl rfl
set_option maxRecDepth 100000 in
theorem lk_L_80 : LkV "SevenEightsLaw" 80 m_M_ask 3 11 := ⟨gi 1166 rfl rfl, gi 1167 rfl rfl, gi 1168 rfl rfl, gi 12 rfl rfl, cw_M_ask, by decide, ⟨by decide, by decide, by decide +kernel⟩, _, rfl, rfl⟩
set_option maxRecDepth 100000 in
theorem cw_S_tell : Cond.code m_S_tell.1 m_S_tell.2.1 m_S_tell.2.2.1 m_S_tell.2.2.2 ∈ gtb := gi 601 rfl rfl
set_option maxRecDepth 100000 in
theorem lk_L_81 : LkV "SevenEightsLaw" 81 m_S_tell 2 10 := ⟨gi 598 rfl rfl, gi 599 rfl rfl, gi 600 rfl rfl, gi 1 rfl rfl, cw_S_tell, by decide, ⟨by decide, by decide, by decide +kernel⟩, _, rfl, rfl⟩
set_option maxRecDepth 100000 in
theorem cw_M_tell : Cond.code m_M_tell.1 m_M_tell.2.1 m_M_tell.2.2.1 m_M_tell.2.2.2 ∈ gtb := gi 1181 rfl rfl
set_option maxRecDepth 100000 in
theorem lk_L_84 : LkV "SevenEightsLaw" 84 m_M_tell 2 11 := ⟨gi 1178 rfl rfl, gi 1179 rfl rfl, gi 1180 rfl rfl, gi 12 rfl rfl, cw_M_tell, by decide, ⟨by decide, by decide, by decide +kernel⟩, _, rfl, rfl⟩
set_option maxRecDepth 100000 in
theorem cw_S_nights : Cond.code m_S_nights.1 m_S_nights.2.1 m_S_nights.2.2.1 m_S_nights.2.2.2 ∈ gtb := gi 612 rfl rfl
set_option maxRecDepth 100000 in
theorem lk_L_85 : LkV "SevenEightsLaw" 85 m_S_nights 1 10 := ⟨gi 609 rfl rfl, gi 610 rfl rfl, gi 611 rfl rfl, gi 1 rfl rfl, cw_S_nights, by decide, ⟨by decide, by decide, by decide +kernel⟩, _, rfl, rfl⟩
set_option maxRecDepth 100000 in
theorem cw_M_nights : Cond.code m_M_nights.1 m_M_nights.2.1 m_M_nights.2.2.1 m_M_nights.2.2.2 ∈ gtb := gi 1189 rfl rfl
set_option maxRecDepth 100000 in
theorem lk_L_89 : LkV "SevenEightsLaw" 89 m_M_nights 1 11 := ⟨gi 1186 rfl rfl, gi 1187 rfl rfl, gi 1188 rfl rfl, gi 12 rfl rfl, cw_M_nights, by decide, ⟨by decide, by decide, by decide +kernel⟩, _, rfl, rfl⟩
set_option maxRecDepth 100000 in
theorem cw_S_card : Cond.code m_S_card.1 m_S_card.2.1 m_S_card.2.2.1 m_S_card.2.2.2 ∈ gtb := gi 627 rfl rfl
set_option maxRecDepth 100000 in
theorem lk_L_90 : LkV "SevenEightsLaw" 90 m_S_card 1 10 := ⟨gi 624 rfl rfl, gi 625 rfl rfl, gi 626 rfl rfl, gi 1 rfl rfl, cw_S_card, by decide, ⟨by decide, by decide, by decide +kernel⟩, _, rfl, rfl⟩
set_option maxRecDepth 100000 in
theorem cw_M_card : Cond.code m_M_card.1 m_M_card.2.1 m_M_card.2.2.1 m_M_card.2.2.2 ∈ gtb := gi 1197 rfl rfl
set_option maxRecDepth 100000 in
theorem lk_L_93 : LkV "SevenEightsLaw" 93 m_M_card 1 11 := ⟨gi 1194 rfl rfl, gi 1195 rfl rfl, gi 1196 rfl rfl, gi 12 rfl rfl, cw_M_card, by decide, ⟨by decide, by decide, by decide +kernel⟩, _, rfl, rfl⟩
set_option maxRecDepth 100000 in
theorem cw_S_known : Cond.code m_S_known.1 m_S_known.2.1 m_S_known.2.2.1 m_S_known.2.2.2 ∈ gtb := gi 631 rfl rfl
set_option maxRecDepth 100000 in
theorem lk_L_94 : LkV "SevenEightsLaw" 94 m_S_known 2 10 := ⟨gi 628 rfl rfl, gi 629 rfl rfl, gi 630 rfl rfl, gi 1 rfl rfl, cw_S_known, by decide, ⟨by decide, by decide, by decide +kernel⟩, _, rfl, rfl⟩
set_option maxRecDepth 100000 in
theorem cw_M_known : Cond.code m_M_known.1 m_M_known.2.1 m_M_known.2.2.1 m_M_known.2.2.2 ∈ gtb := gi 1201 rfl rfl
set_option maxRecDepth 100000 in
theorem lk_L_98 : LkV "SevenEightsLaw" 98 m_M_known 2 11 := ⟨gi 1198 rfl rfl, gi 1199 rfl rfl, gi 1200 rfl rfl, gi 12 rfl rfl, cw_M_known, by decide, ⟨by decide, by decide, by decide +kernel⟩, _, rfl, rfl⟩
set_option maxRecDepth 100000 in
theorem cw_S_friday : Cond.code m_S_friday.1 m_S_friday.2.1 m_S_friday.2.2.1 m_S_friday.2.2.2 ∈ gtb := gi 640 rfl rfl
set_option maxRecDepth 100000 in
theorem lk_L_99 : LkV "SevenEightsLaw" 99 m_S_friday 3 10 := ⟨gi 637 rfl rfl, gi 638 rfl rfl, gi 639 rfl rfl, gi 1 rfl rfl, cw_S_friday, by decide, ⟨by decide, by decide, by decide +kernel⟩, _, rfl, rfl⟩
set_option maxRecDepth 100000 in
theorem cw_M_friday : Cond.code m_M_friday.1 m_M_friday.2.1 m_M_friday.2.2.1 m_M_friday.2.2.2 ∈ gtb := gi 1213 rfl rfl
set_option maxRecDepth 100000 in
theorem lk_L_103 : LkV "SevenEightsLaw" 103 m_M_friday 3 11 := ⟨gi 1210 rfl rfl, gi 1211 rfl rfl, gi 1212 rfl rfl, gi 12 rfl rfl, cw_M_friday, by decide, ⟨by decide, by decide, by decide +kernel⟩, _, rfl, rfl⟩
set_option maxRecDepth 100000 in
theorem cw_S_odds : Cond.code m_S_odds.1 m_S_odds.2.1 m_S_odds.2.2.1 m_S_odds.2.2.2 ∈ gtb := gi 651 rfl rfl
set_option maxRecDepth 100000 in
theorem lk_L_104 : LkV "SevenEightsLaw" 104 m_S_odds 2 10 := ⟨gi 648 rfl rfl, gi 649 rfl rfl, gi 650 rfl rfl, gi 1 rfl rfl, cw_S_odds, by decide, ⟨by decide, by decide, by decide +kernel⟩, _, rfl, rfl⟩
set_option maxRecDepth 100000 in
theorem cw_M_odds : Cond.code m_M_odds.1 m_M_odds.2.1 m_M_odds.2.2.1 m_M_odds.2.2.2 ∈ gtb := gi 1225 rfl rfl
set_option maxRecDepth 100000 in
theorem lk_L_107 : LkV "SevenEightsLaw" 107 m_M_odds 2 11 := ⟨gi 1222 rfl rfl, gi 1223 rfl rfl, gi 1224 rfl rfl, gi 12 rfl rfl, cw_M_odds, by decide, ⟨by decide, by decide, by decide +kernel⟩, _, rfl, rfl⟩
set_option maxRecDepth 100000 in
theorem cw_S_best : Cond.code m_S_best.1 m_S_best.2.1 m_S_best.2.2.1 m_S_best.2.2.2 ∈ gtb := gi 664 rfl rfl
set_option maxRecDepth 100000 in
theorem lk_L_108 : LkV "SevenEightsLaw" 108 m_S_best 4 10 := ⟨gi 661 rfl rfl, gi 662 rfl rfl, gi 663 rfl rfl, gi 1 rfl rfl, cw_S_best, by decide, ⟨by decide, by decide, by decide +kernel⟩, _, rfl, rfl⟩
set_option maxRecDepth 100000 in
theorem cw_M_best : Cond.code m_M_best.1 m_M_best.2.1 m_M_best.2.2.1 m_M_best.2.2.2 ∈ gtb := gi 1238 rfl rfl
set_option maxRecDepth 100000 in
theorem lk_L_111 : LkV "SevenEightsLaw" 111 m_M_best 4 11 := ⟨gi 1235 rfl rfl, gi 1236 rfl rfl, gi 1237 rfl rfl, gi 12 rfl rfl, cw_M_best, by decide, ⟨by decide, by decide, by decide +kernel⟩, _, rfl, rfl⟩
set_option maxRecDepth 100000 in
theorem cw_S_till : Cond.code m_S_till.1 m_S_till.2.1 m_S_till.2.2.1 m_S_till.2.2.2 ∈ gtb := gi 686 rfl rfl
set_option maxRecDepth 100000 in
theorem lk_L_112 : LkV "SevenEightsLaw" 112 m_S_till 3 10 := ⟨gi 683 rfl rfl, gi 684 rfl rfl, gi 685 rfl rfl, gi 1 rfl rfl, cw_S_till, by decide, ⟨by decide, by decide, by decide +kernel⟩, _, rfl, rfl⟩
set_option maxRecDepth 100000 in
theorem cw_M_till : Cond.code m_M_till.1 m_M_till.2.1 m_M_till.2.2.1 m_M_till.2.2.2 ∈ gtb := gi 1250 rfl rfl
set_option maxRecDepth 100000 in
theorem lk_L_115 : LkV "SevenEightsLaw" 115 m_M_till 3 11 := ⟨gi 1247 rfl rfl, gi 1248 rfl rfl, gi 1249 rfl rfl, gi 12 rfl rfl, cw_M_till, by decide, ⟨by decide, by decide, by decide +kernel⟩, _, rfl, rfl⟩
set_option maxRecDepth 100000 in
theorem cw_S_hardest : Cond.code m_S_hardest.1 m_S_hardest.2.1 m_S_hardest.2.2.1 m_S_hardest.2.2.2 ∈ gtb := gi 691 rfl rfl
set_option maxRecDepth 100000 in
theorem lk_L_116 : LkV "SevenEightsLaw" 116 m_S_hardest 1 10 := ⟨gi 688 rfl rfl, gi 689 rfl rfl, gi 690 rfl rfl, gi 1 rfl rfl, cw_S_hardest, by decide, ⟨by decide, by decide, by decide +kernel⟩, _, rfl, rfl⟩
set_option maxRecDepth 100000 in
theorem cw_M_hardest : Cond.code m_M_hardest.1 m_M_hardest.2.1 m_M_hardest.2.2.1 m_M_hardest.2.2.2 ∈ gtb := gi 1254 rfl rfl
set_option maxRecDepth 100000 in
theorem lk_L_119 : LkV "SevenEightsLaw" 119 m_M_hardest 1 11 := ⟨gi 1251 rfl rfl, gi 1252 rfl rfl, gi 1253 rfl rfl, gi 12 rfl rfl, cw_M_hardest, by decide, ⟨by decide, by decide, by decide +kernel⟩, _, rfl, rfl⟩
set_option maxRecDepth 100000 in
theorem cw_S_draws : Cond.code m_S_draws.1 m_S_draws.2.1 m_S_draws.2.2.1 m_S_draws.2.2.2 ∈ gtb := gi 699 rfl rfl
set_option maxRecDepth 100000 in
theorem lk_L_120 : LkV "SevenEightsLaw" 120 m_S_draws 3 10 := ⟨gi 696 rfl rfl, gi 697 rfl rfl, gi 698 rfl rfl, gi 1 rfl rfl, cw_S_draws, by decide, ⟨by decide, by decide, by decide +kernel⟩, _, rfl, rfl⟩
set_option maxRecDepth 100000 in
theorem cw_M_draws : Cond.code m_M_draws.1 m_M_draws.2.1 m_M_draws.2.2.1 m_M_draws.2.2.2 ∈ gtb := gi 1258 rfl rfl
set_option maxRecDepth 100000 in
theorem lk_L_123 : LkV "SevenEightsLaw" 123 m_M_draws 3 11 := ⟨gi 1255 rfl rfl, gi 1256 rfl rfl, gi 1257 rfl rfl, gi 12 rfl rfl, cw_M_draws, by decide, ⟨by decide, by decide, by decide +kernel⟩, _, rfl, rfl⟩
set_option maxRecDepth 100000 in
theorem cw_S_give : Cond.code m_S_give.1 m_S_give.2.1 m_S_give.2.2.1 m_S_give.2.2.2 ∈ gtb := gi 707 rfl rfl
set_option maxRecDepth 100000 in
theorem lk_L_124 : LkV "SevenEightsLaw" 124 m_S_give 1 10 := ⟨gi 704 rfl rfl, gi 705 rfl rfl, gi 706 rfl rfl, gi 1 rfl rfl, cw_S_give, by decide, ⟨by decide, by decide, by decide +kernel⟩, _, rfl, rfl⟩
set_option maxRecDepth 100000 in
theorem cw_M_give : Cond.code m_M_give.1 m_M_give.2.1 m_M_give.2.2.1 m_M_give.2.2.2 ∈ gtb := gi 1307 rfl rfl
set_option maxRecDepth 100000 in
theorem lk_L_127 : LkV "SevenEightsLaw" 127 m_M_give 1 11 := ⟨gi 1304 rfl rfl, gi 1305 rfl rfl, gi 1306 rfl rfl, gi 12 rfl rfl, cw_M_give, by decide, ⟨by decide, by decide, by decide +kernel⟩, _, rfl, rfl⟩
set_option maxRecDepth 100000 in
theorem cw_S_item : Cond.code m_S_item.1 m_S_item.2.1 m_S_item.2.2.1 m_S_item.2.2.2 ∈ gtb := gi 711 rfl rfl
set_option maxRecDepth 100000 in
theorem lk_L_128 : LkV "SevenEightsLaw" 128 m_S_item 2 10 := ⟨gi 708 rfl rfl, gi 709 rfl rfl, gi 710 rfl rfl, gi 1 rfl rfl, cw_S_item, by decide, ⟨by decide, by decide, by decide +kernel⟩, _, rfl, rfl⟩
set_option maxRecDepth 100000 in
theorem cw_M_item : Cond.code m_M_item.1 m_M_item.2.1 m_M_item.2.2.1 m_M_item.2.2.2 ∈ gtb := gi 1315 rfl rfl
set_option maxRecDepth 100000 in
theorem lk_L_131 : LkV "SevenEightsLaw" 131 m_M_item 2 11 := ⟨gi 1312 rfl rfl, gi 1313 rfl rfl, gi 1314 rfl rfl, gi 12 rfl rfl, cw_M_item, by decide, ⟨by decide, by decide, by decide +kernel⟩, _, rfl, rfl⟩
set_option maxRecDepth 100000 in
theorem cw_S_seed : Cond.code m_S_seed.1 m_S_seed.2.1 m_S_seed.2.2.1 m_S_seed.2.2.2 ∈ gtb := gi 715 rfl rfl
set_option maxRecDepth 100000 in
theorem lk_L_132 : LkV "SevenEightsLaw" 132 m_S_seed 1 10 := ⟨gi 712 rfl rfl, gi 713 rfl rfl, gi 714 rfl rfl, gi 1 rfl rfl, cw_S_seed, by decide, ⟨by decide, by decide, by decide +kernel⟩, _, rfl, rfl⟩
set_option maxRecDepth 100000 in
theorem cw_M_seed : Cond.code m_M_seed.1 m_M_seed.2.1 m_M_seed.2.2.1 m_M_seed.2.2.2 ∈ gtb := gi 1319 rfl rfl
set_option maxRecDepth 100000 in
theorem lk_L_135 : LkV "SevenEightsLaw" 135 m_M_seed 1 11 := ⟨gi 1316 rfl rfl, gi 1317 rfl rfl, gi 1318 rfl rfl, gi 12 rfl rfl, cw_M_seed, by decide, ⟨by decide, by decide, by decide +kernel⟩, _, rfl, rfl⟩
set_option maxRecDepth 100000 in
theorem cw_S_draw : Cond.code m_S_draw.1 m_S_draw.2.1 m_S_draw.2.2.1 m_S_draw.2.2.2 ∈ gtb := gi 719 rfl rfl
set_option maxRecDepth 100000 in
theorem lk_L_136 : LkV "SevenEightsLaw" 136 m_S_draw 2 10 := ⟨gi 716 rfl rfl, gi 717 rfl rfl, gi 718 rfl rfl, gi 1 rfl rfl, cw_S_draw, by decide, ⟨by decide, by decide, by decide +kernel⟩, _, rfl, rfl⟩
set_option maxRecDepth 100000 in
theorem cw_M_draw : Cond.code m_M_draw.1 m_M_draw.2.1 m_M_draw.2.2.1 m_M_draw.2.2.2 ∈ gtb := gi 1323 rfl rfl
set_option maxRecDepth 100000 in
theorem lk_L_139 : LkV "SevenEightsLaw" 139 m_M_draw 2 11 := ⟨gi 1320 rfl rfl, gi 1321 rfl rfl, gi 1322 rfl rfl, gi 12 rfl rfl, cw_M_draw, by decide, ⟨by decide, by decide, by decide +kernel⟩, _, rfl, rfl⟩
set_option maxRecDepth 100000 in
theorem cw_S_prove : Cond.code m_S_prove.1 m_S_prove.2.1 m_S_prove.2.2.1 m_S_prove.2.2.2 ∈ gtb := gi 727 rfl rfl
set_option maxRecDepth 100000 in
theorem lk_L_140 : LkV "SevenEightsLaw" 140 m_S_prove 1 10 := ⟨gi 724 rfl rfl, gi 725 rfl rfl, gi 726 rfl rfl, gi 1 rfl rfl, cw_S_prove, by decide, ⟨by decide, by decide, by decide +kernel⟩, _, rfl, rfl⟩
set_option maxRecDepth 100000 in
theorem cw_M_prove : Cond.code m_M_prove.1 m_M_prove.2.1 m_M_prove.2.2.1 m_M_prove.2.2.2 ∈ gtb := gi 1328 rfl rfl
set_option maxRecDepth 100000 in
theorem lk_L_143 : LkV "SevenEightsLaw" 143 m_M_prove 1 11 := ⟨gi 1325 rfl rfl, gi 1326 rfl rfl, gi 1327 rfl rfl, gi 12 rfl rfl, cw_M_prove, by decide, ⟨by decide, by decide, by decide +kernel⟩, _, rfl, rfl⟩
set_option maxRecDepth 100000 in
theorem cw_S_row : Cond.code m_S_row.1 m_S_row.2.1 m_S_row.2.2.1 m_S_row.2.2.2 ∈ gtb := gi 739 rfl rfl
set_option maxRecDepth 100000 in
theorem lk_L_144 : LkV "SevenEightsLaw" 144 m_S_row 2 10 := ⟨gi 736 rfl rfl, gi 737 rfl rfl, gi 738 rfl rfl, gi 1 rfl rfl, cw_S_row, by decide, ⟨by decide, by decide, by decide +kernel⟩, _, rfl, rfl⟩
set_option maxRecDepth 100000 in
theorem cw_M_row : Cond.code m_M_row.1 m_M_row.2.1 m_M_row.2.2.1 m_M_row.2.2.2 ∈ gtb := gi 1336 rfl rfl
set_option maxRecDepth 100000 in
theorem lk_L_147 : LkV "SevenEightsLaw" 147 m_M_row 2 11 := ⟨gi 1333 rfl rfl, gi 1334 rfl rfl, gi 1335 rfl rfl, gi 12 rfl rfl, cw_M_row, by decide, ⟨by decide, by decide, by decide +kernel⟩, _, rfl, rfl⟩
set_option maxRecDepth 100000 in
theorem cw_S_alterRow : Cond.code m_S_alterRow.1 m_S_alterRow.2.1 m_S_alterRow.2.2.1 m_S_alterRow.2.2.2 ∈ gtb := gi 748 rfl rfl
set_option maxRecDepth 100000 in
theorem lk_L_148 : LkV "SevenEightsLaw" 148 m_S_alterRow 3 10 := ⟨gi 745 rfl rfl, gi 746 rfl rfl, gi 747 rfl rfl, gi 1 rfl rfl, cw_S_alterRow, by decide, ⟨by decide, by decide, by decide +kernel⟩, _, rfl, rfl⟩
set_option maxRecDepth 100000 in
theorem cw_M_alterRow : Cond.code m_M_alterRow.1 m_M_alterRow.2.1 m_M_alterRow.2.2.1 m_M_alterRow.2.2.2 ∈ gtb := gi 1344 rfl rfl
set_option maxRecDepth 100000 in
theorem lk_L_151 : LkV "SevenEightsLaw" 151 m_M_alterRow 3 11 := ⟨gi 1341 rfl rfl, gi 1342 rfl rfl, gi 1343 rfl rfl, gi 12 rfl rfl, cw_M_alterRow, by decide, ⟨by decide, by decide, by decide +kernel⟩, _, rfl, rfl⟩
set_option maxRecDepth 100000 in
theorem cw_S_judge : Cond.code m_S_judge.1 m_S_judge.2.1 m_S_judge.2.2.1 m_S_judge.2.2.2 ∈ gtb := gi 752 rfl rfl
set_option maxRecDepth 100000 in
theorem lk_L_152 : LkV "SevenEightsLaw" 152 m_S_judge 1 10 := ⟨gi 749 rfl rfl, gi 750 rfl rfl, gi 751 rfl rfl, gi 1 rfl rfl, cw_S_judge, by decide, ⟨by decide, by decide, by decide +kernel⟩, _, rfl, rfl⟩
set_option maxRecDepth 100000 in
theorem cw_M_judge : Cond.code m_M_judge.1 m_M_judge.2.1 m_M_judge.2.2.1 m_M_judge.2.2.2 ∈ gtb := gi 1348 rfl rfl
set_option maxRecDepth 100000 in
theorem lk_L_155 : LkV "SevenEightsLaw" 155 m_M_judge 1 11 := ⟨gi 1345 rfl rfl, gi 1346 rfl rfl, gi 1347 rfl rfl, gi 12 rfl rfl, cw_M_judge, by decide, ⟨by decide, by decide, by decide +kernel⟩, _, rfl, rfl⟩
set_option maxRecDepth 100000 in
theorem cw_S_firms : Cond.code m_S_firms.1 m_S_firms.2.1 m_S_firms.2.2.1 m_S_firms.2.2.2 ∈ gtb := gi 760 rfl rfl
set_option maxRecDepth 100000 in
theorem lk_L_156 : LkV "SevenEightsLaw" 156 m_S_firms 5 10 := ⟨gi 757 rfl rfl, gi 758 rfl rfl, gi 759 rfl rfl, gi 1 rfl rfl, cw_S_firms, by decide, ⟨by decide, by decide, by decide +kernel⟩, _, rfl, rfl⟩
set_option maxRecDepth 100000 in
theorem cw_M_firms : Cond.code m_M_firms.1 m_M_firms.2.1 m_M_firms.2.2.1 m_M_firms.2.2.2 ∈ gtb := gi 1352 rfl rfl
set_option maxRecDepth 100000 in
theorem lk_L_160 : LkV "SevenEightsLaw" 160 m_M_firms 5 11 := ⟨gi 1349 rfl rfl, gi 1350 rfl rfl, gi 1351 rfl rfl, gi 12 rfl rfl, cw_M_firms, by decide, ⟨by decide, by decide, by decide +kernel⟩, _, rfl, rfl⟩
set_option maxRecDepth 100000 in
theorem cw_S_sheet : Cond.code m_S_sheet.1 m_S_sheet.2.1 m_S_sheet.2.2.1 m_S_sheet.2.2.2 ∈ gtb := gi 771 rfl rfl
set_option maxRecDepth 100000 in
theorem lk_L_161 : LkV "SevenEightsLaw" 161 m_S_sheet 3 10 := ⟨gi 768 rfl rfl, gi 769 rfl rfl, gi 770 rfl rfl, gi 1 rfl rfl, cw_S_sheet, by decide, ⟨by decide, by decide, by decide +kernel⟩, _, rfl, rfl⟩
set_option maxRecDepth 100000 in
theorem cw_M_sheet : Cond.code m_M_sheet.1 m_M_sheet.2.1 m_M_sheet.2.2.1 m_M_sheet.2.2.2 ∈ gtb := gi 1363 rfl rfl
set_option maxRecDepth 100000 in
theorem lk_L_164 : LkV "SevenEightsLaw" 164 m_M_sheet 3 11 := ⟨gi 1360 rfl rfl, gi 1361 rfl rfl, gi 1362 rfl rfl, gi 12 rfl rfl, cw_M_sheet, by decide, ⟨by decide, by decide, by decide +kernel⟩, _, rfl, rfl⟩
set_option maxRecDepth 100000 in
theorem cw_S_put : Cond.code m_S_put.1 m_S_put.2.1 m_S_put.2.2.1 m_S_put.2.2.2 ∈ gtb := gi 783 rfl rfl
set_option maxRecDepth 100000 in
theorem lk_L_165 : LkV "SevenEightsLaw" 165 m_S_put 3 10 := ⟨gi 780 rfl rfl, gi 781 rfl rfl, gi 782 rfl rfl, gi 1 rfl rfl, cw_S_put, by decide, ⟨by decide, by decide, by decide +kernel⟩, _, rfl, rfl⟩
set_option maxRecDepth 100000 in
theorem cw_M_put : Cond.code m_M_put.1 m_M_put.2.1 m_M_put.2.2.1 m_M_put.2.2.2 ∈ gtb := gi 1367 rfl rfl
set_option maxRecDepth 100000 in
theorem lk_L_168 : LkV "SevenEightsLaw" 168 m_M_put 3 11 := ⟨gi 1364 rfl rfl, gi 1365 rfl rfl, gi 1366 rfl rfl, gi 12 rfl rfl, cw_M_put, by decide, ⟨by decide, by decide, by decide +kernel⟩, _, rfl, rfl⟩
set_option maxRecDepth 100000 in
theorem cw_S_number : Cond.code m_S_number.1 m_S_number.2.1 m_S_number.2.2.1 m_S_number.2.2.2 ∈ gtb := gi 791 rfl rfl
set_option maxRecDepth 100000 in
theorem lk_L_169 : LkV "SevenEightsLaw" 169 m_S_number 3 10 := ⟨gi 788 rfl rfl, gi 789 rfl rfl, gi 790 rfl rfl, gi 1 rfl rfl, cw_S_number, by decide, ⟨by decide, by decide, by decide +kernel⟩, _, rfl, rfl⟩
set_option maxRecDepth 100000 in
theorem cw_M_number : Cond.code m_M_number.1 m_M_number.2.1 m_M_number.2.2.1 m_M_number.2.2.2 ∈ gtb := gi 1371 rfl rfl
set_option maxRecDepth 100000 in
theorem lk_L_172 : LkV "SevenEightsLaw" 172 m_M_number 3 11 := ⟨gi 1368 rfl rfl, gi 1369 rfl rfl, gi 1370 rfl rfl, gi 12 rfl rfl, cw_M_number, by decide, ⟨by decide, by decide, by decide +kernel⟩, _, rfl, rfl⟩
set_option maxRecDepth 100000 in
theorem cw_S_shelf : Cond.code m_S_shelf.1 m_S_shelf.2.1 m_S_shelf.2.2.1 m_S_shelf.2.2.2 ∈ gtb := gi 795 rfl rfl
set_option maxRecDepth 100000 in
theorem lk_L_173 : LkV "SevenEightsLaw" 173 m_S_shelf 3 10 := ⟨gi 792 rfl rfl, gi 793 rfl rfl, gi 794 rfl rfl, gi 1 rfl rfl, cw_S_shelf, by decide, ⟨by decide, by decide, by decide +kernel⟩, _, rfl, rfl⟩
set_option maxRecDepth 100000 in
theorem cw_M_shelf : Cond.code m_M_shelf.1 m_M_shelf.2.1 m_M_shelf.2.2.1 m_M_shelf.2.2.2 ∈ gtb := gi 1375 rfl rfl
set_option maxRecDepth 100000 in
theorem lk_L_176 : LkV "SevenEightsLaw" 176 m_M_shelf 3 11 := ⟨gi 1372 rfl rfl, gi 1373 rfl rfl, gi 1374 rfl rfl, gi 12 rfl rfl, cw_M_shelf, by decide, ⟨by decide, by decide, by decide +kernel⟩, _, rfl, rfl⟩
set_option maxRecDepth 100000 in
theorem cw_S_taken : Cond.code m_S_taken.1 m_S_taken.2.1 m_S_taken.2.2.1 m_S_taken.2.2.2 ∈ gtb := gi 815 rfl rfl
set_option maxRecDepth 100000 in
theorem lk_L_177 : LkV "SevenEightsLaw" 177 m_S_taken 2 10 := ⟨gi 812 rfl rfl, gi 813 rfl rfl, gi 814 rfl rfl, gi 1 rfl rfl, cw_S_taken, by decide, ⟨by decide, by decide, by decide +kernel⟩, _, rfl, rfl⟩
set_option maxRecDepth 100000 in
theorem cw_M_taken : Cond.code m_M_taken.1 m_M_taken.2.1 m_M_taken.2.2.1 m_M_taken.2.2.2 ∈ gtb := gi 1383 rfl rfl
set_option maxRecDepth 100000 in
theorem lk_L_180 : LkV "SevenEightsLaw" 180 m_M_taken 2 11 := ⟨gi 1380 rfl rfl, gi 1381 rfl rfl, gi 1382 rfl rfl, gi 12 rfl rfl, cw_M_taken, by decide, ⟨by decide, by decide, by decide +kernel⟩, _, rfl, rfl⟩
set_option maxRecDepth 100000 in
theorem cw_S_act : Cond.code m_S_act.1 m_S_act.2.1 m_S_act.2.2.1 m_S_act.2.2.2 ∈ gtb := gi 828 rfl rfl
set_option maxRecDepth 100000 in
theorem lk_L_181 : LkV "SevenEightsLaw" 181 m_S_act 3 10 := ⟨gi 825 rfl rfl, gi 826 rfl rfl, gi 827 rfl rfl, gi 1 rfl rfl, cw_S_act, by decide, ⟨by decide, by decide, by decide +kernel⟩, _, rfl, rfl⟩
set_option maxRecDepth 100000 in
theorem cw_M_act : Cond.code m_M_act.1 m_M_act.2.1 m_M_act.2.2.1 m_M_act.2.2.2 ∈ gtb := gi 1394 rfl rfl
set_option maxRecDepth 100000 in
theorem lk_L_184 : LkV "SevenEightsLaw" 184 m_M_act 3 11 := ⟨gi 1391 rfl rfl, gi 1392 rfl rfl, gi 1393 rfl rfl, gi 12 rfl rfl, cw_M_act, by decide, ⟨by decide, by decide, by decide +kernel⟩, _, rfl, rfl⟩
set_option maxRecDepth 100000 in
theorem cw_S_trace : Cond.code m_S_trace.1 m_S_trace.2.1 m_S_trace.2.2.1 m_S_trace.2.2.2 ∈ gtb := gi 863 rfl rfl
set_option maxRecDepth 100000 in
theorem lk_L_185 : LkV "SevenEightsLaw" 185 m_S_trace 1 10 := ⟨gi 860 rfl rfl, gi 861 rfl rfl, gi 862 rfl rfl, gi 1 rfl rfl, cw_S_trace, by decide, ⟨by decide, by decide, by decide +kernel⟩, _, rfl, rfl⟩
set_option maxRecDepth 100000 in
theorem cw_M_trace : Cond.code m_M_trace.1 m_M_trace.2.1 m_M_trace.2.2.1 m_M_trace.2.2.2 ∈ gtb := gi 1438 rfl rfl
set_option maxRecDepth 100000 in
theorem lk_L_188 : LkV "SevenEightsLaw" 188 m_M_trace 1 11 := ⟨gi 1435 rfl rfl, gi 1436 rfl rfl, gi 1437 rfl rfl, gi 12 rfl rfl, cw_M_trace, by decide, ⟨by decide, by decide, by decide +kernel⟩, _, rfl, rfl⟩
set_option maxRecDepth 100000 in
theorem cw_S_many : Cond.code m_S_many.1 m_S_many.2.1 m_S_many.2.2.1 m_S_many.2.2.2 ∈ gtb := gi 867 rfl rfl
set_option maxRecDepth 100000 in
theorem lk_L_189 : LkV "SevenEightsLaw" 189 m_S_many 1 10 := ⟨gi 864 rfl rfl, gi 865 rfl rfl, gi 866 rfl rfl, gi 1 rfl rfl, cw_S_many, by decide, ⟨by decide, by decide, by decide +kernel⟩, _, rfl, rfl⟩
set_option maxRecDepth 100000 in
theorem cw_M_many : Cond.code m_M_many.1 m_M_many.2.1 m_M_many.2.2.1 m_M_many.2.2.2 ∈ gtb := gi 1442 rfl rfl
set_option maxRecDepth 100000 in
theorem lk_L_192 : LkV "SevenEightsLaw" 192 m_M_many 1 11 := ⟨gi 1439 rfl rfl, gi 1440 rfl rfl, gi 1441 rfl rfl, gi 12 rfl rfl, cw_M_many, by decide, ⟨by decide, by decide, by decide +kernel⟩, _, rfl, rfl⟩
set_option maxRecDepth 100000 in
theorem cw_S_keep : Cond.code m_S_keep.1 m_S_keep.2.1 m_S_keep.2.2.1 m_S_keep.2.2.2 ∈ gtb := gi 871 rfl rfl
set_option maxRecDepth 100000 in
theorem lk_L_193 : LkV "SevenEightsLaw" 193 m_S_keep 0 10 := ⟨gi 868 rfl rfl, gi 869 rfl rfl, gi 870 rfl rfl, gi 1 rfl rfl, cw_S_keep, by decide, ⟨by decide, by decide, by decide +kernel⟩, _, rfl, rfl⟩
set_option maxRecDepth 100000 in
theorem cw_M_keep : Cond.code m_M_keep.1 m_M_keep.2.1 m_M_keep.2.2.1 m_M_keep.2.2.2 ∈ gtb := gi 1446 rfl rfl
set_option maxRecDepth 100000 in
theorem lk_L_196 : LkV "SevenEightsLaw" 196 m_M_keep 0 11 := ⟨gi 1443 rfl rfl, gi 1444 rfl rfl, gi 1445 rfl rfl, gi 12 rfl rfl, cw_M_keep, by decide, ⟨by decide, by decide, by decide +kernel⟩, _, rfl, rfl⟩
set_option maxRecDepth 100000 in
theorem cw_S_again : Cond.code m_S_again.1 m_S_again.2.1 m_S_again.2.2.1 m_S_again.2.2.2 ∈ gtb := gi 882 rfl rfl
set_option maxRecDepth 100000 in
theorem lk_L_197 : LkV "SevenEightsLaw" 197 m_S_again 0 10 := ⟨gi 879 rfl rfl, gi 880 rfl rfl, gi 881 rfl rfl, gi 1 rfl rfl, cw_S_again, by decide, ⟨by decide, by decide, by decide +kernel⟩, _, rfl, rfl⟩
set_option maxRecDepth 100000 in
theorem cw_M_again : Cond.code m_M_again.1 m_M_again.2.1 m_M_again.2.2.1 m_M_again.2.2.2 ∈ gtb := gi 1458 rfl rfl
set_option maxRecDepth 100000 in
theorem lk_L_200 : LkV "SevenEightsLaw" 200 m_M_again 0 11 := ⟨gi 1455 rfl rfl, gi 1456 rfl rfl, gi 1457 rfl rfl, gi 12 rfl rfl, cw_M_again, by decide, ⟨by decide, by decide, by decide +kernel⟩, _, rfl, rfl⟩
set_option maxRecDepth 100000 in
theorem fl_M_7 : FL "SevenEightsModel" 7 11 0 := ⟨R_M, F_M, 41, rfl, by decide, gi 889 rfl rfl, uw_M⟩
set_option maxRecDepth 100000 in
theorem fl_M_13 : FL "SevenEightsModel" 13 11 2 := ⟨R_M, F_M, 41, rfl, by decide, gi 891 rfl rfl, uw_M⟩
set_option maxRecDepth 100000 in
theorem fl_M_16 : FL "SevenEightsModel" 16 11 3 := ⟨R_M, F_M, 41, rfl, by decide, gi 892 rfl rfl, uw_M⟩
set_option maxRecDepth 100000 in
theorem fl_M_19 : FL "SevenEightsModel" 19 11 4 := ⟨R_M, F_M, 41, rfl, by decide, gi 893 rfl rfl, uw_M⟩
set_option maxRecDepth 100000 in
theorem fp_M_19 : FP "SevenEightsModel" 19 11 4 .int := ⟨R_M, F_M, 41, t_M, rfl, by decide, gi 893 rfl rfl, uw_M, t_M_ok, n_M, rfl, by decide +kernel⟩
set_option maxRecDepth 100000 in
theorem fl_M_23 : FL "SevenEightsModel" 23 11 8 := ⟨R_M, F_M, 41, rfl, by decide, gi 897 rfl rfl, uw_M⟩
set_option maxRecDepth 100000 in
theorem fl_M_26 : FL "SevenEightsModel" 26 11 9 := ⟨R_M, F_M, 41, rfl, by decide, gi 898 rfl rfl, uw_M⟩
set_option maxRecDepth 100000 in
theorem fl_M_29 : FL "SevenEightsModel" 29 11 10 := ⟨R_M, F_M, 41, rfl, by decide, gi 899 rfl rfl, uw_M⟩
set_option maxRecDepth 100000 in
theorem fl_M_32 : FL "SevenEightsModel" 32 11 19 := ⟨R_M, F_M, 41, rfl, by decide, gi 908 rfl rfl, uw_M⟩
set_option maxRecDepth 100000 in
theorem fl_M_35 : FL "SevenEightsModel" 35 11 20 := ⟨R_M, F_M, 41, rfl, by decide, gi 909 rfl rfl, uw_M⟩
set_option maxRecDepth 100000 in
theorem fl_M_38 : FL "SevenEightsModel" 38 11 21 := ⟨R_M, F_M, 41, rfl, by decide, gi 910 rfl rfl, uw_M⟩
set_option maxRecDepth 100000 in
theorem fl_M_41 : FL "SevenEightsModel" 41 11 22 := ⟨R_M, F_M, 41, rfl, by decide, gi 911 rfl rfl, uw_M⟩
set_option maxRecDepth 100000 in
theorem fl_M_44 : FL "SevenEightsModel" 44 11 25 := ⟨R_M, F_M, 41, rfl, by decide, gi 914 rfl rfl, uw_M⟩
set_option maxRecDepth 100000 in
theorem fl_M_47 : FL "SevenEightsModel" 47 11 26 := ⟨R_M, F_M, 41, rfl, by decide, gi 915 rfl rfl, uw_M⟩
set_option maxRecDepth 100000 in
theorem fl_M_50 : FL "SevenEightsModel" 50 11 27 := ⟨R_M, F_M, 41, rfl, by decide, gi 916 rfl rfl, uw_M⟩
set_option maxRecDepth 100000 in
theorem fl_M_54 : FL "SevenEightsModel" 54 11 28 := ⟨R_M, F_M, 41, rfl, by decide, gi 917 rfl rfl, uw_M⟩
set_option maxRecDepth 100000 in
theorem fl_M_57 : FL "SevenEightsModel" 57 11 29 := ⟨R_M, F_M, 41, rfl, by decide, gi 918 rfl rfl, uw_M⟩
set_option maxRecDepth 100000 in
theorem fl_M_60 : FL "SevenEightsModel" 60 11 30 := ⟨R_M, F_M, 41, rfl, by decide, gi 919 rfl rfl, uw_M⟩
set_option maxRecDepth 100000 in
theorem fl_M_63 : FL "SevenEightsModel" 63 11 34 := ⟨R_M, F_M, 41, rfl, by decide, gi 923 rfl rfl, uw_M⟩
set_option maxRecDepth 100000 in
theorem fl_M_66 : FL "SevenEightsModel" 66 11 38 := ⟨R_M, F_M, 41, rfl, by decide, gi 927 rfl rfl, uw_M⟩
set_option maxRecDepth 100000 in
theorem fl_M_69 : FL "SevenEightsModel" 69 11 40 := ⟨R_M, F_M, 41, rfl, by decide, gi 929 rfl rfl, uw_M⟩
set_option maxRecDepth 100000 in
theorem cw_M_in : Cond.code m_M_in.1 m_M_in.2.1 m_M_in.2.2.1 m_M_in.2.2.2 ∈ gtb := gi 1022 rfl rfl
set_option maxRecDepth 100000 in
theorem lk_M_72 : LkS "SevenEightsModel" 72 m_M_in 3 := ⟨gi 1020 rfl rfl, gi 1021 rfl rfl, gi 12 rfl rfl, cw_M_in, by decide, ⟨by decide, by decide, by decide +kernel⟩⟩
set_option maxRecDepth 100000 in
theorem cw_M_lesser : Cond.code m_M_lesser.1 m_M_lesser.2.1 m_M_lesser.2.2.1 m_M_lesser.2.2.2 ∈ gtb := gi 1032 rfl rfl
set_option maxRecDepth 100000 in
theorem lk_M_76 : LkS "SevenEightsModel" 76 m_M_lesser 1 := ⟨gi 1030 rfl rfl, gi 1031 rfl rfl, gi 12 rfl rfl, cw_M_lesser, by decide, ⟨by decide, by decide, by decide +kernel⟩⟩
set_option maxRecDepth 100000 in
theorem cw_M_greater : Cond.code m_M_greater.1 m_M_greater.2.1 m_M_greater.2.2.1 m_M_greater.2.2.2 ∈ gtb := gi 1035 rfl rfl
set_option maxRecDepth 100000 in
theorem lk_M_80 : LkS "SevenEightsModel" 80 m_M_greater 1 := ⟨gi 1033 rfl rfl, gi 1034 rfl rfl, gi 12 rfl rfl, cw_M_greater, by decide, ⟨by decide, by decide, by decide +kernel⟩⟩
set_option maxRecDepth 100000 in
theorem cw_M_pairBy : Cond.code m_M_pairBy.1 m_M_pairBy.2.1 m_M_pairBy.2.2.1 m_M_pairBy.2.2.2 ∈ gtb := gi 1019 rfl rfl
set_option maxRecDepth 100000 in
theorem lk_M_83 : LkS "SevenEightsModel" 83 m_M_pairBy 2 := ⟨gi 1017 rfl rfl, gi 1018 rfl rfl, gi 12 rfl rfl, cw_M_pairBy, by decide, ⟨by decide, by decide, by decide +kernel⟩⟩
set_option maxRecDepth 100000 in
theorem cw_M_bitOf : Cond.code m_M_bitOf.1 m_M_bitOf.2.1 m_M_bitOf.2.2.1 m_M_bitOf.2.2.2 ∈ gtb := gi 1051 rfl rfl
set_option maxRecDepth 100000 in
theorem lk_M_87 : LkS "SevenEightsModel" 87 m_M_bitOf 1 := ⟨gi 1049 rfl rfl, gi 1050 rfl rfl, gi 12 rfl rfl, cw_M_bitOf, by decide, ⟨by decide, by decide, by decide +kernel⟩⟩
set_option maxRecDepth 100000 in
theorem cw_M_isPair : Cond.code m_M_isPair.1 m_M_isPair.2.1 m_M_isPair.2.2.1 m_M_isPair.2.2.2 ∈ gtb := gi 1029 rfl rfl
set_option maxRecDepth 100000 in
theorem lk_M_91 : LkS "SevenEightsModel" 91 m_M_isPair 1 := ⟨gi 1027 rfl rfl, gi 1028 rfl rfl, gi 12 rfl rfl, cw_M_isPair, by decide, ⟨by decide, by decide, by decide +kernel⟩⟩
set_option maxRecDepth 100000 in
theorem cw_M_product : Cond.code m_M_product.1 m_M_product.2.1 m_M_product.2.2.1 m_M_product.2.2.2 ∈ gtb := gi 1038 rfl rfl
set_option maxRecDepth 100000 in
theorem lk_M_95 : LkS "SevenEightsModel" 95 m_M_product 1 := ⟨gi 1036 rfl rfl, gi 1037 rfl rfl, gi 12 rfl rfl, cw_M_product, by decide, ⟨by decide, by decide, by decide +kernel⟩⟩
set_option maxRecDepth 100000 in
theorem cw_M_firmAtFirst : Cond.code m_M_firmAtFirst.1 m_M_firmAtFirst.2.1 m_M_firmAtFirst.2.2.1 m_M_firmAtFirst.2.2.2 ∈ gtb := gi 1041 rfl rfl
set_option maxRecDepth 100000 in
theorem lk_M_98 : LkS "SevenEightsModel" 98 m_M_firmAtFirst 1 := ⟨gi 1039 rfl rfl, gi 1040 rfl rfl, gi 12 rfl rfl, cw_M_firmAtFirst, by decide, ⟨by decide, by decide, by decide +kernel⟩⟩
set_option maxRecDepth 100000 in
theorem cw_M_tiedTo : Cond.code m_M_tiedTo.1 m_M_tiedTo.2.1 m_M_tiedTo.2.2.1 m_M_tiedTo.2.2.2 ∈ gtb := gi 1048 rfl rfl
set_option maxRecDepth 100000 in
theorem lk_M_101 : LkS "SevenEightsModel" 101 m_M_tiedTo 1 := ⟨gi 1046 rfl rfl, gi 1047 rfl rfl, gi 12 rfl rfl, cw_M_tiedTo, by decide, ⟨by decide, by decide, by decide +kernel⟩⟩
set_option maxRecDepth 100000 in
theorem kc_M_104 : Cond.constantLong "SevenEightsModel" 104 (-1) ∈ gtb := gi 1052 rfl rfl
set_option maxRecDepth 100000 in
theorem fl_M_106 : FL "SevenEightsModel" 106 11 1 := ⟨R_M, F_M, 41, rfl, by decide, gi 890 rfl rfl, uw_M⟩
set_option maxRecDepth 100000 in
theorem fp_M_106 : FP "SevenEightsModel" 106 11 1 .int := ⟨R_M, F_M, 41, t_M, rfl, by decide, gi 890 rfl rfl, uw_M, t_M_ok, n_M, rfl, by decide +kernel⟩
set_option maxRecDepth 100000 in
theorem cw_M_place : Cond.code m_M_place.1 m_M_place.2.1 m_M_place.2.2.1 m_M_place.2.2.2 ∈ gtb := gi 1060 rfl rfl
set_option maxRecDepth 100000 in
theorem lk_M_109 : LkV "SevenEightsModel" 109 m_M_place 2 11 := ⟨gi 1057 rfl rfl, gi 1059 rfl rfl, gs (q := (⟨"SevenEightsModel", "place", "(II)I"⟩, 41)) 16 rfl rfl, gi 12 rfl rfl, cw_M_place, by decide, ⟨by decide, by decide, by decide +kernel⟩, _, rfl, rfl⟩
set_option maxRecDepth 100000 in
theorem cw_M_firmOf : Cond.code m_M_firmOf.1 m_M_firmOf.2.1 m_M_firmOf.2.2.1 m_M_firmOf.2.2.2 ∈ gtb := gi 1084 rfl rfl
set_option maxRecDepth 100000 in
theorem lk_M_112 : LkV "SevenEightsModel" 112 m_M_firmOf 2 11 := ⟨gi 1081 rfl rfl, gi 1083 rfl rfl, gs (q := (⟨"SevenEightsModel", "firmOf", "(II)I"⟩, 41)) 21 rfl rfl, gi 12 rfl rfl, cw_M_firmOf, by decide, ⟨by decide, by decide, by decide +kernel⟩, _, rfl, rfl⟩
set_option maxRecDepth 100000 in
theorem cw_M_isLearner : Cond.code m_M_isLearner.1 m_M_isLearner.2.1 m_M_isLearner.2.2.1 m_M_isLearner.2.2.2 ∈ gtb := gi 1068 rfl rfl
set_option maxRecDepth 100000 in
theorem lk_M_115 : LkV "SevenEightsModel" 115 m_M_isLearner 1 11 := ⟨gi 1065 rfl rfl, gi 1067 rfl rfl, gs (q := (⟨"SevenEightsModel", "isLearner", "(I)Z"⟩, 41)) 17 rfl rfl, gi 12 rfl rfl, cw_M_isLearner, by decide, ⟨by decide, by decide, by decide +kernel⟩, _, rfl, rfl⟩
set_option maxRecDepth 100000 in
theorem cw_M_kindOf : Cond.code m_M_kindOf.1 m_M_kindOf.2.1 m_M_kindOf.2.2.1 m_M_kindOf.2.2.2 ∈ gtb := gi 1072 rfl rfl
set_option maxRecDepth 100000 in
theorem lk_M_118 : LkV "SevenEightsModel" 118 m_M_kindOf 1 11 := ⟨gi 1069 rfl rfl, gi 1071 rfl rfl, gs (q := (⟨"SevenEightsModel", "kindOf", "(I)I"⟩, 41)) 18 rfl rfl, gi 12 rfl rfl, cw_M_kindOf, by decide, ⟨by decide, by decide, by decide +kernel⟩, _, rfl, rfl⟩
set_option maxRecDepth 100000 in
theorem cw_M_aOf : Cond.code m_M_aOf.1 m_M_aOf.2.1 m_M_aOf.2.2.1 m_M_aOf.2.2.2 ∈ gtb := gi 1076 rfl rfl
set_option maxRecDepth 100000 in
theorem lk_M_121 : LkV "SevenEightsModel" 121 m_M_aOf 1 11 := ⟨gi 1073 rfl rfl, gi 1075 rfl rfl, gs (q := (⟨"SevenEightsModel", "aOf", "(I)I"⟩, 41)) 19 rfl rfl, gi 12 rfl rfl, cw_M_aOf, by decide, ⟨by decide, by decide, by decide +kernel⟩, _, rfl, rfl⟩
set_option maxRecDepth 100000 in
theorem cw_M_firmInAll : Cond.code m_M_firmInAll.1 m_M_firmInAll.2.1 m_M_firmInAll.2.2.1 m_M_firmInAll.2.2.2 ∈ gtb := gi 1080 rfl rfl
set_option maxRecDepth 100000 in
theorem lk_M_124 : LkV "SevenEightsModel" 124 m_M_firmInAll 1 11 := ⟨gi 1077 rfl rfl, gi 1079 rfl rfl, gs (q := (⟨"SevenEightsModel", "firmInAll", "(I)I"⟩, 41)) 20 rfl rfl, gi 12 rfl rfl, cw_M_firmInAll, by decide, ⟨by decide, by decide, by decide +kernel⟩, _, rfl, rfl⟩
set_option maxRecDepth 100000 in
theorem cw_M_rightsOf : Cond.code m_M_rightsOf.1 m_M_rightsOf.2.1 m_M_rightsOf.2.2.1 m_M_rightsOf.2.2.2 ∈ gtb := gi 1096 rfl rfl
set_option maxRecDepth 100000 in
theorem lk_M_127 : LkV "SevenEightsModel" 127 m_M_rightsOf 2 11 := ⟨gi 1093 rfl rfl, gi 1095 rfl rfl, gs (q := (⟨"SevenEightsModel", "rightsOf", "(II)I"⟩, 41)) 23 rfl rfl, gi 12 rfl rfl, cw_M_rightsOf, by decide, ⟨by decide, by decide, by decide +kernel⟩, _, rfl, rfl⟩
set_option maxRecDepth 100000 in
theorem cw_M_latestOf : Cond.code m_M_latestOf.1 m_M_latestOf.2.1 m_M_latestOf.2.2.1 m_M_latestOf.2.2.2 ∈ gtb := gi 1104 rfl rfl
set_option maxRecDepth 100000 in
theorem lk_M_130 : LkV "SevenEightsModel" 130 m_M_latestOf 2 11 := ⟨gi 1101 rfl rfl, gi 1103 rfl rfl, gs (q := (⟨"SevenEightsModel", "latestOf", "(II)I"⟩, 41)) 25 rfl rfl, gi 12 rfl rfl, cw_M_latestOf, by decide, ⟨by decide, by decide, by decide +kernel⟩, _, rfl, rfl⟩
set_option maxRecDepth 100000 in
theorem cw_M_boxOf : Cond.code m_M_boxOf.1 m_M_boxOf.2.1 m_M_boxOf.2.2.1 m_M_boxOf.2.2.2 ∈ gtb := gi 1092 rfl rfl
set_option maxRecDepth 100000 in
theorem lk_M_133 : LkV "SevenEightsModel" 133 m_M_boxOf 2 11 := ⟨gi 1089 rfl rfl, gi 1091 rfl rfl, gs (q := (⟨"SevenEightsModel", "boxOf", "(II)I"⟩, 41)) 22 rfl rfl, gi 12 rfl rfl, cw_M_boxOf, by decide, ⟨by decide, by decide, by decide +kernel⟩, _, rfl, rfl⟩
set_option maxRecDepth 100000 in
theorem cw_M_dueOf : Cond.code m_M_dueOf.1 m_M_dueOf.2.1 m_M_dueOf.2.2.1 m_M_dueOf.2.2.2 ∈ gtb := gi 1100 rfl rfl
set_option maxRecDepth 100000 in
theorem lk_M_136 : LkV "SevenEightsModel" 136 m_M_dueOf 2 11 := ⟨gi 1097 rfl rfl, gi 1099 rfl rfl, gs (q := (⟨"SevenEightsModel", "dueOf", "(II)I"⟩, 41)) 24 rfl rfl, gi 12 rfl rfl, cw_M_dueOf, by decide, ⟨by decide, by decide, by decide +kernel⟩, _, rfl, rfl⟩
set_option maxRecDepth 100000 in
theorem cw_M_kept : Cond.code m_M_kept.1 m_M_kept.2.1 m_M_kept.2.2.1 m_M_kept.2.2.2 ∈ gtb := gi 1134 rfl rfl
set_option maxRecDepth 100000 in
theorem lk_M_139 : LkS "SevenEightsModel" 139 m_M_kept 1 := ⟨gi 1132 rfl rfl, gi 1133 rfl rfl, gi 12 rfl rfl, cw_M_kept, by decide, ⟨by decide, by decide, by decide +kernel⟩⟩
set_option maxRecDepth 100000 in
theorem cw_M_isTime : Cond.code m_M_isTime.1 m_M_isTime.2.1 m_M_isTime.2.2.1 m_M_isTime.2.2.2 ∈ gtb := gi 1127 rfl rfl
set_option maxRecDepth 100000 in
theorem lk_M_142 : LkS "SevenEightsModel" 142 m_M_isTime 1 := ⟨gi 1125 rfl rfl, gi 1126 rfl rfl, gi 12 rfl rfl, cw_M_isTime, by decide, ⟨by decide, by decide, by decide +kernel⟩⟩
set_option maxRecDepth 100000 in
theorem cw_M_feelOf : Cond.code m_M_feelOf.1 m_M_feelOf.2.1 m_M_feelOf.2.2.1 m_M_feelOf.2.2.2 ∈ gtb := gi 1131 rfl rfl
set_option maxRecDepth 100000 in
theorem lk_M_145 : LkV "SevenEightsModel" 145 m_M_feelOf 3 11 := ⟨gi 1128 rfl rfl, gi 1130 rfl rfl, gs (q := (⟨"SevenEightsModel", "feelOf", "(III)I"⟩, 41)) 26 rfl rfl, gi 12 rfl rfl, cw_M_feelOf, by decide, ⟨by decide, by decide, by decide +kernel⟩, _, rfl, rfl⟩
set_option maxRecDepth 100000 in
theorem cw_M_takesBy : Cond.code m_M_takesBy.1 m_M_takesBy.2.1 m_M_takesBy.2.2.1 m_M_takesBy.2.2.2 ∈ gtb := gi 1149 rfl rfl
set_option maxRecDepth 100000 in
theorem lk_M_149 : LkS "SevenEightsModel" 149 m_M_takesBy 1 := ⟨gi 1147 rfl rfl, gi 1148 rfl rfl, gi 12 rfl rfl, cw_M_takesBy, by decide, ⟨by decide, by decide, by decide +kernel⟩⟩
set_option maxRecDepth 100000 in
theorem cw_M_stepOf : Cond.code m_M_stepOf.1 m_M_stepOf.2.1 m_M_stepOf.2.2.1 m_M_stepOf.2.2.2 ∈ gtb := gi 1157 rfl rfl
set_option maxRecDepth 100000 in
theorem lk_M_152 : LkV "SevenEightsModel" 152 m_M_stepOf 1 11 := ⟨gi 1154 rfl rfl, gi 1156 rfl rfl, gs (q := (⟨"SevenEightsModel", "stepOf", "(I)I"⟩, 41)) 30 rfl rfl, gi 12 rfl rfl, cw_M_stepOf, by decide, ⟨by decide, by decide, by decide +kernel⟩, _, rfl, rfl⟩
set_option maxRecDepth 100000 in
theorem cw_M_isAtOnce : Cond.code m_M_isAtOnce.1 m_M_isAtOnce.2.1 m_M_isAtOnce.2.2.1 m_M_isAtOnce.2.2.2 ∈ gtb := gi 1146 rfl rfl
set_option maxRecDepth 100000 in
theorem lk_M_155 : LkV "SevenEightsModel" 155 m_M_isAtOnce 3 11 := ⟨gi 1143 rfl rfl, gi 1145 rfl rfl, gs (q := (⟨"SevenEightsModel", "isAtOnce", "(III)Z"⟩, 41)) 28 rfl rfl, gi 12 rfl rfl, cw_M_isAtOnce, by decide, ⟨by decide, by decide, by decide +kernel⟩, _, rfl, rfl⟩
set_option maxRecDepth 100000 in
theorem fl_M_158 : FL "SevenEightsModel" 158 11 6 := ⟨R_M, F_M, 41, rfl, by decide, gi 895 rfl rfl, uw_M⟩
set_option maxRecDepth 100000 in
theorem fp_M_158 : FP "SevenEightsModel" 158 11 6 .int := ⟨R_M, F_M, 41, t_M, rfl, by decide, gi 895 rfl rfl, uw_M, t_M_ok, n_M, rfl, by decide +kernel⟩
set_option maxRecDepth 100000 in
theorem fl_M_161 : FL "SevenEightsModel" 161 11 5 := ⟨R_M, F_M, 41, rfl, by decide, gi 894 rfl rfl, uw_M⟩
set_option maxRecDepth 100000 in
theorem fp_M_161 : FP "SevenEightsModel" 161 11 5 .int := ⟨R_M, F_M, 41, t_M, rfl, by decide, gi 894 rfl rfl, uw_M, t_M_ok, n_M, rfl, by decide +kernel⟩
set_option maxRecDepth 100000 in
theorem fl_M_164 : FL "SevenEightsModel" 164 11 7 := ⟨R_M, F_M, 41, rfl, by decide, gi 896 rfl rfl, uw_M⟩
set_option maxRecDepth 100000 in
theorem fp_M_164 : FP "SevenEightsModel" 164 11 7 .int := ⟨R_M, F_M, 41, t_M, rfl, by decide, gi 896 rfl rfl, uw_M, t_M_ok, n_M, rfl, by decide +kernel⟩
set_option maxRecDepth 100000 in
theorem cw_M_wayFrom : Cond.code m_M_wayFrom.1 m_M_wayFrom.2.1 m_M_wayFrom.2.2.1 m_M_wayFrom.2.2.2 ∈ gtb := gi 1153 rfl rfl
set_option maxRecDepth 100000 in
theorem lk_M_167 : LkV "SevenEightsModel" 167 m_M_wayFrom 3 11 := ⟨gi 1150 rfl rfl, gi 1152 rfl rfl, gs (q := (⟨"SevenEightsModel", "wayFrom", "(III)I"⟩, 41)) 29 rfl rfl, gi 12 rfl rfl, cw_M_wayFrom, by decide, ⟨by decide, by decide, by decide +kernel⟩, _, rfl, rfl⟩
set_option maxRecDepth 100000 in
theorem cw_M_slipTo : Cond.code m_M_slipTo.1 m_M_slipTo.2.1 m_M_slipTo.2.2.1 m_M_slipTo.2.2.2 ∈ gtb := gi 1161 rfl rfl
set_option maxRecDepth 100000 in
theorem lk_M_170 : LkV "SevenEightsModel" 170 m_M_slipTo 3 11 := ⟨gi 1158 rfl rfl, gi 1160 rfl rfl, gs (q := (⟨"SevenEightsModel", "slipTo", "(III)I"⟩, 41)) 31 rfl rfl, gi 12 rfl rfl, cw_M_slipTo, by decide, ⟨by decide, by decide, by decide +kernel⟩, _, rfl, rfl⟩
set_option maxRecDepth 100000 in
theorem cw_M_says : Cond.code m_M_says.1 m_M_says.2.1 m_M_says.2.2.1 m_M_says.2.2.2 ∈ gtb := gi 1142 rfl rfl
set_option maxRecDepth 100000 in
theorem lk_M_173 : LkV "SevenEightsModel" 173 m_M_says 3 11 := ⟨gi 1139 rfl rfl, gi 1141 rfl rfl, gs (q := (⟨"SevenEightsModel", "says", "(III)V"⟩, 41)) 27 rfl rfl, gi 12 rfl rfl, cw_M_says, by decide, ⟨by decide, by decide, by decide +kernel⟩, _, rfl, rfl⟩
set_option maxRecDepth 100000 in
theorem cw_M_said : Cond.code m_M_said.1 m_M_said.2.1 m_M_said.2.2.1 m_M_said.2.2.2 ∈ gtb := gi 1165 rfl rfl
set_option maxRecDepth 100000 in
theorem lk_M_177 : LkV "SevenEightsModel" 177 m_M_said 1 11 := ⟨gi 1162 rfl rfl, gi 1164 rfl rfl, gs (q := (⟨"SevenEightsModel", "said", "(I)I"⟩, 41)) 32 rfl rfl, gi 12 rfl rfl, cw_M_said, by decide, ⟨by decide, by decide, by decide +kernel⟩, _, rfl, rfl⟩
set_option maxRecDepth 100000 in
theorem cw_M_firmBecomes : Cond.code m_M_firmBecomes.1 m_M_firmBecomes.2.1 m_M_firmBecomes.2.2.1 m_M_firmBecomes.2.2.2 ∈ gtb := gi 1177 rfl rfl
set_option maxRecDepth 100000 in
theorem lk_M_180 : LkV "SevenEightsModel" 180 m_M_firmBecomes 3 11 := ⟨gi 1174 rfl rfl, gi 1176 rfl rfl, gs (q := (⟨"SevenEightsModel", "firmBecomes", "(III)V"⟩, 41)) 34 rfl rfl, gi 12 rfl rfl, cw_M_firmBecomes, by decide, ⟨by decide, by decide, by decide +kernel⟩, _, rfl, rfl⟩
set_option maxRecDepth 100000 in
theorem cw_M_asked : Cond.code m_M_asked.1 m_M_asked.2.1 m_M_asked.2.2.1 m_M_asked.2.2.2 ∈ gtb := gi 1173 rfl rfl
set_option maxRecDepth 100000 in
theorem lk_M_183 : LkV "SevenEightsModel" 183 m_M_asked 3 11 := ⟨gi 1170 rfl rfl, gi 1172 rfl rfl, gs (q := (⟨"SevenEightsModel", "asked", "(III)I"⟩, 41)) 33 rfl rfl, gi 12 rfl rfl, cw_M_asked, by decide, ⟨by decide, by decide, by decide +kernel⟩, _, rfl, rfl⟩
set_option maxRecDepth 100000 in
theorem cw_M_isTold : Cond.code m_M_isTold.1 m_M_isTold.2.1 m_M_isTold.2.2.1 m_M_isTold.2.2.2 ∈ gtb := gi 1185 rfl rfl
set_option maxRecDepth 100000 in
theorem lk_M_186 : LkV "SevenEightsModel" 186 m_M_isTold 2 11 := ⟨gi 1182 rfl rfl, gi 1184 rfl rfl, gs (q := (⟨"SevenEightsModel", "isTold", "(II)V"⟩, 41)) 35 rfl rfl, gi 12 rfl rfl, cw_M_isTold, by decide, ⟨by decide, by decide, by decide +kernel⟩, _, rfl, rfl⟩
set_option maxRecDepth 100000 in
theorem cw_M_nightGoes : Cond.code m_M_nightGoes.1 m_M_nightGoes.2.1 m_M_nightGoes.2.2.1 m_M_nightGoes.2.2.2 ∈ gtb := gi 1193 rfl rfl
set_option maxRecDepth 100000 in
theorem lk_M_190 : LkV "SevenEightsModel" 190 m_M_nightGoes 0 11 := ⟨gi 1190 rfl rfl, gi 1192 rfl rfl, gs (q := (⟨"SevenEightsModel", "nightGoes", "()V"⟩, 41)) 36 rfl rfl, gi 12 rfl rfl, cw_M_nightGoes, by decide, ⟨by decide, by decide, by decide +kernel⟩, _, rfl, rfl⟩
set_option maxRecDepth 100000 in
theorem cw_M_isKnown : Cond.code m_M_isKnown.1 m_M_isKnown.2.1 m_M_isKnown.2.2.1 m_M_isKnown.2.2.2 ∈ gtb := gi 1209 rfl rfl
set_option maxRecDepth 100000 in
theorem lk_M_193 : LkV "SevenEightsModel" 193 m_M_isKnown 3 11 := ⟨gi 1206 rfl rfl, gi 1208 rfl rfl, gs (q := (⟨"SevenEightsModel", "isKnown", "(III)Z"⟩, 41)) 38 rfl rfl, gi 12 rfl rfl, cw_M_isKnown, by decide, ⟨by decide, by decide, by decide +kernel⟩, _, rfl, rfl⟩
set_option maxRecDepth 100000 in
theorem cw_M_knownSet : Cond.code m_M_knownSet.1 m_M_knownSet.2.1 m_M_knownSet.2.2.1 m_M_knownSet.2.2.2 ∈ gtb := gi 1205 rfl rfl
set_option maxRecDepth 100000 in
theorem lk_M_196 : LkV "SevenEightsModel" 196 m_M_knownSet 2 11 := ⟨gi 1202 rfl rfl, gi 1204 rfl rfl, gs (q := (⟨"SevenEightsModel", "knownSet", "(II)J"⟩, 41)) 37 rfl rfl, gi 12 rfl rfl, cw_M_knownSet, by decide, ⟨by decide, by decide, by decide +kernel⟩, _, rfl, rfl⟩
set_option maxRecDepth 100000 in
theorem kc_M_200 : Cond.constantLong "SevenEightsModel" 200 (68719476735) ∈ gtb := gi 1221 rfl rfl
set_option maxRecDepth 100000 in
theorem cw_M_lends : Cond.code m_M_lends.1 m_M_lends.2.1 m_M_lends.2.2.1 m_M_lends.2.2.2 ∈ gtb := gi 1217 rfl rfl
set_option maxRecDepth 100000 in
theorem lk_M_202 : LkV "SevenEightsModel" 202 m_M_lends 0 11 := ⟨gi 1214 rfl rfl, gi 1216 rfl rfl, gs (q := (⟨"SevenEightsModel", "lends", "()V"⟩, 41)) 39 rfl rfl, gi 12 rfl rfl, cw_M_lends, by decide, ⟨by decide, by decide, by decide +kernel⟩, _, rfl, rfl⟩
set_option maxRecDepth 100000 in
theorem cw_M_all : Cond.code m_M_all.1 m_M_all.2.1 m_M_all.2.2.1 m_M_all.2.2.2 ∈ gtb := gi 1220 rfl rfl
set_option maxRecDepth 100000 in
theorem lk_M_205 : LkS "SevenEightsModel" 205 m_M_all 0 := ⟨gi 1218 rfl rfl, gi 1219 rfl rfl, gi 12 rfl rfl, cw_M_all, by decide, ⟨by decide, by decide, by decide +kernel⟩⟩
set_option maxRecDepth 100000 in
theorem cw_M_isSide : Cond.code m_M_isSide.1 m_M_isSide.2.1 m_M_isSide.2.2.1 m_M_isSide.2.2.2 ∈ gtb := gi 1228 rfl rfl
set_option maxRecDepth 100000 in
theorem lk_M_209 : LkS "SevenEightsModel" 209 m_M_isSide 1 := ⟨gi 1226 rfl rfl, gi 1227 rfl rfl, gi 12 rfl rfl, cw_M_isSide, by decide, ⟨by decide, by decide, by decide +kernel⟩⟩
set_option maxRecDepth 100000 in
theorem cw_M_ones : Cond.code m_M_ones.1 m_M_ones.2.1 m_M_ones.2.2.1 m_M_ones.2.2.2 ∈ gtb := gi 1231 rfl rfl
set_option maxRecDepth 100000 in
theorem lk_M_212 : LkS "SevenEightsModel" 212 m_M_ones 1 := ⟨gi 1229 rfl rfl, gi 1230 rfl rfl, gi 12 rfl rfl, cw_M_ones, by decide, ⟨by decide, by decide, by decide +kernel⟩⟩
set_option maxRecDepth 100000 in
theorem cw_M_partOf : Cond.code m_M_partOf.1 m_M_partOf.2.1 m_M_partOf.2.2.1 m_M_partOf.2.2.2 ∈ gtb := gi 1234 rfl rfl
set_option maxRecDepth 100000 in
theorem lk_M_216 : LkS "SevenEightsModel" 216 m_M_partOf 3 := ⟨gi 1232 rfl rfl, gi 1233 rfl rfl, gi 12 rfl rfl, cw_M_partOf, by decide, ⟨by decide, by decide, by decide +kernel⟩⟩
set_option maxRecDepth 100000 in
theorem cw_M_firmBehind : Cond.code m_M_firmBehind.1 m_M_firmBehind.2.1 m_M_firmBehind.2.2.1 m_M_firmBehind.2.2.2 ∈ gtb := gi 1246 rfl rfl
set_option maxRecDepth 100000 in
theorem lk_M_219 : LkV "SevenEightsModel" 219 m_M_firmBehind 3 11 := ⟨gi 1243 rfl rfl, gi 1245 rfl rfl, gs (q := (⟨"SevenEightsModel", "firmBehind", "(III)I"⟩, 41)) 41 rfl rfl, gi 12 rfl rfl, cw_M_firmBehind, by decide, ⟨by decide, by decide, by decide +kernel⟩, _, rfl, rfl⟩
set_option maxRecDepth 100000 in
theorem cw_M_findBehind : Cond.code m_M_findBehind.1 m_M_findBehind.2.1 m_M_findBehind.2.2.1 m_M_findBehind.2.2.2 ∈ gtb := gi 1242 rfl rfl
set_option maxRecDepth 100000 in
theorem lk_M_222 : LkV "SevenEightsModel" 222 m_M_findBehind 2 11 := ⟨gi 1239 rfl rfl, gi 1241 rfl rfl, gs (q := (⟨"SevenEightsModel", "findBehind", "(II)V"⟩, 41)) 40 rfl rfl, gi 12 rfl rfl, cw_M_findBehind, by decide, ⟨by decide, by decide, by decide +kernel⟩, _, rfl, rfl⟩
set_option maxRecDepth 100000 in
theorem fl_M_225 : FL "SevenEightsModel" 225 11 11 := ⟨R_M, F_M, 41, rfl, by decide, gi 900 rfl rfl, uw_M⟩
set_option maxRecDepth 100000 in
theorem fp_M_225 : FP "SevenEightsModel" 225 11 11 .int := ⟨R_M, F_M, 41, t_M, rfl, by decide, gi 900 rfl rfl, uw_M, t_M_ok, n_M, rfl, by decide +kernel⟩
set_option maxRecDepth 100000 in
theorem kc_M_228 : Cond.constantLong "SevenEightsModel" 228 (255) ∈ gtb := gi 1263 rfl rfl
set_option maxRecDepth 100000 in
theorem fl_M_230 : FL "SevenEightsModel" 230 11 14 := ⟨R_M, F_M, 41, rfl, by decide, gi 903 rfl rfl, uw_M⟩
set_option maxRecDepth 100000 in
theorem fp_M_230 : FP "SevenEightsModel" 230 11 14 .int := ⟨R_M, F_M, 41, t_M, rfl, by decide, gi 903 rfl rfl, uw_M, t_M_ok, n_M, rfl, by decide +kernel⟩
set_option maxRecDepth 100000 in
theorem fl_M_233 : FL "SevenEightsModel" 233 11 13 := ⟨R_M, F_M, 41, rfl, by decide, gi 902 rfl rfl, uw_M⟩
set_option maxRecDepth 100000 in
theorem fp_M_233 : FP "SevenEightsModel" 233 11 13 .int := ⟨R_M, F_M, 41, t_M, rfl, by decide, gi 902 rfl rfl, uw_M, t_M_ok, n_M, rfl, by decide +kernel⟩
set_option maxRecDepth 100000 in
theorem cw_M_byteAt : Cond.code m_M_byteAt.1 m_M_byteAt.2.1 m_M_byteAt.2.2.1 m_M_byteAt.2.2.2 ∈ gtb := gi 1275 rfl rfl
set_option maxRecDepth 100000 in
theorem lk_M_236 : LkV "SevenEightsModel" 236 m_M_byteAt 1 11 := ⟨gi 1272 rfl rfl, gi 1274 rfl rfl, gs (q := (⟨"SevenEightsModel", "byteAt", "(I)I"⟩, 41)) 43 rfl rfl, gi 12 rfl rfl, cw_M_byteAt, by decide, ⟨by decide, by decide, by decide +kernel⟩, _, rfl, rfl⟩
set_option maxRecDepth 100000 in
theorem cw_M_isLetter : Cond.code m_M_isLetter.1 m_M_isLetter.2.1 m_M_isLetter.2.2.1 m_M_isLetter.2.2.2 ∈ gtb := gi 1278 rfl rfl
set_option maxRecDepth 100000 in
theorem lk_M_239 : LkS "SevenEightsModel" 239 m_M_isLetter 1 := ⟨gi 1276 rfl rfl, gi 1277 rfl rfl, gi 12 rfl rfl, cw_M_isLetter, by decide, ⟨by decide, by decide, by decide +kernel⟩⟩
set_option maxRecDepth 100000 in
theorem cw_M_isDigit : Cond.code m_M_isDigit.1 m_M_isDigit.2.1 m_M_isDigit.2.2.1 m_M_isDigit.2.2.2 ∈ gtb := gi 1281 rfl rfl
set_option maxRecDepth 100000 in
theorem lk_M_242 : LkS "SevenEightsModel" 242 m_M_isDigit 1 := ⟨gi 1279 rfl rfl, gi 1280 rfl rfl, gi 12 rfl rfl, cw_M_isDigit, by decide, ⟨by decide, by decide, by decide +kernel⟩⟩
set_option maxRecDepth 100000 in
theorem fl_M_245 : FL "SevenEightsModel" 245 11 12 := ⟨R_M, F_M, 41, rfl, by decide, gi 901 rfl rfl, uw_M⟩
set_option maxRecDepth 100000 in
theorem fp_M_245 : FP "SevenEightsModel" 245 11 12 .int := ⟨R_M, F_M, 41, t_M, rfl, by decide, gi 901 rfl rfl, uw_M, t_M_ok, n_M, rfl, by decide +kernel⟩
set_option maxRecDepth 100000 in
theorem fl_M_248 : FL "SevenEightsModel" 248 11 15 := ⟨R_M, F_M, 41, rfl, by decide, gi 904 rfl rfl, uw_M⟩
set_option maxRecDepth 100000 in
theorem fp_M_248 : FP "SevenEightsModel" 248 11 15 .long := ⟨R_M, F_M, 41, t_M, rfl, by decide, gi 904 rfl rfl, uw_M, t_M_ok, n_M, rfl, by decide +kernel⟩
set_option maxRecDepth 100000 in
theorem fl_M_252 : FL "SevenEightsModel" 252 11 16 := ⟨R_M, F_M, 41, rfl, by decide, gi 905 rfl rfl, uw_M⟩
set_option maxRecDepth 100000 in
theorem fp_M_252 : FP "SevenEightsModel" 252 11 16 .int := ⟨R_M, F_M, 41, t_M, rfl, by decide, gi 905 rfl rfl, uw_M, t_M_ok, n_M, rfl, by decide +kernel⟩
set_option maxRecDepth 100000 in
theorem kc_M_255 : Cond.constantLong "SevenEightsModel" 255 (27) ∈ gtb := gi 1282 rfl rfl
set_option maxRecDepth 100000 in
theorem kc_M_257 : Cond.constantLong "SevenEightsModel" 257 (96) ∈ gtb := gi 1283 rfl rfl
set_option maxRecDepth 100000 in
theorem fl_M_259 : FL "SevenEightsModel" 259 11 17 := ⟨R_M, F_M, 41, rfl, by decide, gi 906 rfl rfl, uw_M⟩
set_option maxRecDepth 100000 in
theorem fp_M_259 : FP "SevenEightsModel" 259 11 17 .boolean := ⟨R_M, F_M, 41, t_M, rfl, by decide, gi 906 rfl rfl, uw_M, t_M_ok, n_M, rfl, by decide +kernel⟩
set_option maxRecDepth 100000 in
theorem cw_M_advance : Cond.code m_M_advance.1 m_M_advance.2.1 m_M_advance.2.2.1 m_M_advance.2.2.2 ∈ gtb := gi 1271 rfl rfl
set_option maxRecDepth 100000 in
theorem lk_M_263 : LkV "SevenEightsModel" 263 m_M_advance 0 11 := ⟨gi 1268 rfl rfl, gi 1270 rfl rfl, gs (q := (⟨"SevenEightsModel", "advance", "()V"⟩, 41)) 42 rfl rfl, gi 12 rfl rfl, cw_M_advance, by decide, ⟨by decide, by decide, by decide +kernel⟩, _, rfl, rfl⟩
set_option maxRecDepth 100000 in
theorem kc_M_266 : Cond.constantLong "SevenEightsModel" 266 (1253) ∈ gtb := gi 1288 rfl rfl
set_option maxRecDepth 100000 in
theorem cw_M_isWord : Cond.code m_M_isWord.1 m_M_isWord.2.1 m_M_isWord.2.2.1 m_M_isWord.2.2.2 ∈ gtb := gi 1292 rfl rfl
set_option maxRecDepth 100000 in
theorem lk_M_268 : LkV "SevenEightsModel" 268 m_M_isWord 1 11 := ⟨gi 1289 rfl rfl, gi 1291 rfl rfl, gs (q := (⟨"SevenEightsModel", "isWord", "(J)Z"⟩, 41)) 45 rfl rfl, gi 12 rfl rfl, cw_M_isWord, by decide, ⟨by decide, by decide, by decide +kernel⟩, _, rfl, rfl⟩
set_option maxRecDepth 100000 in
theorem kc_M_272 : Cond.constantLong "SevenEightsModel" 272 (397641) ∈ gtb := gi 1293 rfl rfl
set_option maxRecDepth 100000 in
theorem kc_M_274 : Cond.constantLong "SevenEightsModel" 274 (358472) ∈ gtb := gi 1294 rfl rfl
set_option maxRecDepth 100000 in
theorem cw_M_wantNumber : Cond.code m_M_wantNumber.1 m_M_wantNumber.2.1 m_M_wantNumber.2.2.1 m_M_wantNumber.2.2.2 ∈ gtb := gi 1298 rfl rfl
set_option maxRecDepth 100000 in
theorem lk_M_276 : LkV "SevenEightsModel" 276 m_M_wantNumber 2 11 := ⟨gi 1295 rfl rfl, gi 1297 rfl rfl, gs (q := (⟨"SevenEightsModel", "wantNumber", "(II)I"⟩, 41)) 46 rfl rfl, gi 12 rfl rfl, cw_M_wantNumber, by decide, ⟨by decide, by decide, by decide +kernel⟩, _, rfl, rfl⟩
set_option maxRecDepth 100000 in
theorem kc_M_279 : Cond.constantLong "SevenEightsModel" 279 (257) ∈ gtb := gi 1299 rfl rfl
set_option maxRecDepth 100000 in
theorem cw_M_isMark : Cond.code m_M_isMark.1 m_M_isMark.2.1 m_M_isMark.2.2.1 m_M_isMark.2.2.2 ∈ gtb := gi 1303 rfl rfl
set_option maxRecDepth 100000 in
theorem lk_M_281 : LkV "SevenEightsModel" 281 m_M_isMark 1 11 := ⟨gi 1300 rfl rfl, gi 1302 rfl rfl, gs (q := (⟨"SevenEightsModel", "isMark", "(I)Z"⟩, 41)) 47 rfl rfl, gi 12 rfl rfl, cw_M_isMark, by decide, ⟨by decide, by decide, by decide +kernel⟩, _, rfl, rfl⟩
set_option maxRecDepth 100000 in
theorem cw_M_wantItem : Cond.code m_M_wantItem.1 m_M_wantItem.2.1 m_M_wantItem.2.2.1 m_M_wantItem.2.2.2 ∈ gtb := gi 1287 rfl rfl
set_option maxRecDepth 100000 in
theorem lk_M_284 : LkV "SevenEightsModel" 284 m_M_wantItem 1 11 := ⟨gi 1284 rfl rfl, gi 1286 rfl rfl, gs (q := (⟨"SevenEightsModel", "wantItem", "(I)V"⟩, 41)) 44 rfl rfl, gi 12 rfl rfl, cw_M_wantItem, by decide, ⟨by decide, by decide, by decide +kernel⟩, _, rfl, rfl⟩
set_option maxRecDepth 100000 in
theorem fl_M_288 : FL "SevenEightsModel" 288 11 18 := ⟨R_M, F_M, 41, rfl, by decide, gi 907 rfl rfl, uw_M⟩
set_option maxRecDepth 100000 in
theorem fp_M_288 : FP "SevenEightsModel" 288 11 18 .int := ⟨R_M, F_M, 41, t_M, rfl, by decide, gi 907 rfl rfl, uw_M, t_M_ok, n_M, rfl, by decide +kernel⟩
set_option maxRecDepth 100000 in
theorem cw_M_does : Cond.code m_M_does.1 m_M_does.2.1 m_M_does.2.2.1 m_M_does.2.2.2 ∈ gtb := gi 1311 rfl rfl
set_option maxRecDepth 100000 in
theorem lk_M_291 : LkV "SevenEightsModel" 291 m_M_does 2 11 := ⟨gi 1308 rfl rfl, gi 1310 rfl rfl, gs (q := (⟨"SevenEightsModel", "does", "(II)I"⟩, 41)) 48 rfl rfl, gi 12 rfl rfl, cw_M_does, by decide, ⟨by decide, by decide, by decide +kernel⟩, _, rfl, rfl⟩
set_option maxRecDepth 100000 in
theorem kc_M_294 : Cond.constant "SevenEightsModel" 294 (1103515245) ∈ gtb := gi 1324 rfl rfl
set_option maxRecDepth 100000 in
theorem fl_M_295 : FL "SevenEightsModel" 295 11 24 := ⟨R_M, F_M, 41, rfl, by decide, gi 913 rfl rfl, uw_M⟩
set_option maxRecDepth 100000 in
theorem fp_M_295 : FP "SevenEightsModel" 295 11 24 .int := ⟨R_M, F_M, 41, t_M, rfl, by decide, gi 913 rfl rfl, uw_M, t_M_ok, n_M, rfl, by decide +kernel⟩
set_option maxRecDepth 100000 in
theorem cw_M_findRows : Cond.code m_M_findRows.1 m_M_findRows.2.1 m_M_findRows.2.2.1 m_M_findRows.2.2.2 ∈ gtb := gi 1332 rfl rfl
set_option maxRecDepth 100000 in
theorem lk_M_298 : LkV "SevenEightsModel" 298 m_M_findRows 1 11 := ⟨gi 1329 rfl rfl, gi 1331 rfl rfl, gs (q := (⟨"SevenEightsModel", "findRows", "(I)V"⟩, 41)) 49 rfl rfl, gi 12 rfl rfl, cw_M_findRows, by decide, ⟨by decide, by decide, by decide +kernel⟩, _, rfl, rfl⟩
set_option maxRecDepth 100000 in
theorem fl_M_301 : FL "SevenEightsModel" 301 11 23 := ⟨R_M, F_M, 41, rfl, by decide, gi 912 rfl rfl, uw_M⟩
set_option maxRecDepth 100000 in
theorem fp_M_301 : FP "SevenEightsModel" 301 11 23 .int := ⟨R_M, F_M, 41, t_M, rfl, by decide, gi 912 rfl rfl, uw_M, t_M_ok, n_M, rfl, by decide +kernel⟩
set_option maxRecDepth 100000 in
theorem cw_M_isRow : Cond.code m_M_isRow.1 m_M_isRow.2.1 m_M_isRow.2.2.1 m_M_isRow.2.2.2 ∈ gtb := gi 1340 rfl rfl
set_option maxRecDepth 100000 in
theorem lk_M_304 : LkV "SevenEightsModel" 304 m_M_isRow 2 11 := ⟨gi 1337 rfl rfl, gi 1339 rfl rfl, gs (q := (⟨"SevenEightsModel", "isRow", "(II)Z"⟩, 41)) 50 rfl rfl, gi 12 rfl rfl, cw_M_isRow, by decide, ⟨by decide, by decide, by decide +kernel⟩, _, rfl, rfl⟩
set_option maxRecDepth 100000 in
theorem cw_M_isShelf : Cond.code m_M_isShelf.1 m_M_isShelf.2.1 m_M_isShelf.2.2.1 m_M_isShelf.2.2.2 ∈ gtb := gi 1355 rfl rfl
set_option maxRecDepth 100000 in
theorem lk_M_308 : LkS "SevenEightsModel" 308 m_M_isShelf 1 := ⟨gi 1353 rfl rfl, gi 1354 rfl rfl, gi 12 rfl rfl, cw_M_isShelf, by decide, ⟨by decide, by decide, by decide +kernel⟩⟩
set_option maxRecDepth 100000 in
theorem cw_M_lacksSort : Cond.code m_M_lacksSort.1 m_M_lacksSort.2.1 m_M_lacksSort.2.2.1 m_M_lacksSort.2.2.2 ∈ gtb := gi 1359 rfl rfl
set_option maxRecDepth 100000 in
theorem lk_M_311 : LkV "SevenEightsModel" 311 m_M_lacksSort 2 11 := ⟨gi 1356 rfl rfl, gi 1358 rfl rfl, gs (q := (⟨"SevenEightsModel", "lacksSort", "(II)I"⟩, 41)) 51 rfl rfl, gi 12 rfl rfl, cw_M_lacksSort, by decide, ⟨by decide, by decide, by decide +kernel⟩, _, rfl, rfl⟩
set_option maxRecDepth 100000 in
theorem cw_M_isHeld : Cond.code m_M_isHeld.1 m_M_isHeld.2.1 m_M_isHeld.2.2.1 m_M_isHeld.2.2.2 ∈ gtb := gi 1379 rfl rfl
set_option maxRecDepth 100000 in
theorem lk_M_314 : LkV "SevenEightsModel" 314 m_M_isHeld 2 11 := ⟨gi 1376 rfl rfl, gi 1378 rfl rfl, gs (q := (⟨"SevenEightsModel", "isHeld", "(II)Z"⟩, 41)) 52 rfl rfl, gi 12 rfl rfl, cw_M_isHeld, by decide, ⟨by decide, by decide, by decide +kernel⟩, _, rfl, rfl⟩
set_option maxRecDepth 100000 in
theorem cw_M_kindOn : Cond.code m_M_kindOn.1 m_M_kindOn.2.1 m_M_kindOn.2.2.1 m_M_kindOn.2.2.2 ∈ gtb := gi 1387 rfl rfl
set_option maxRecDepth 100000 in
theorem lk_M_317 : LkV "SevenEightsModel" 317 m_M_kindOn 1 11 := ⟨gi 1384 rfl rfl, gi 1386 rfl rfl, gs (q := (⟨"SevenEightsModel", "kindOn", "(I)I"⟩, 41)) 53 rfl rfl, gi 12 rfl rfl, cw_M_kindOn, by decide, ⟨by decide, by decide, by decide +kernel⟩, _, rfl, rfl⟩
set_option maxRecDepth 100000 in
theorem cw_M_isUnder : Cond.code m_M_isUnder.1 m_M_isUnder.2.1 m_M_isUnder.2.2.1 m_M_isUnder.2.2.2 ∈ gtb := gi 1390 rfl rfl
set_option maxRecDepth 100000 in
theorem lk_M_320 : LkS "SevenEightsModel" 320 m_M_isUnder 2 := ⟨gi 1388 rfl rfl, gi 1389 rfl rfl, gi 12 rfl rfl, cw_M_isUnder, by decide, ⟨by decide, by decide, by decide +kernel⟩⟩
set_option maxRecDepth 100000 in
theorem fl_M_323 : FL "SevenEightsModel" 323 11 35 := ⟨R_M, F_M, 41, rfl, by decide, gi 924 rfl rfl, uw_M⟩
set_option maxRecDepth 100000 in
theorem fp_M_323 : FP "SevenEightsModel" 323 11 35 .int := ⟨R_M, F_M, 41, t_M, rfl, by decide, gi 924 rfl rfl, uw_M, t_M_ok, n_M, rfl, by decide +kernel⟩
set_option maxRecDepth 100000 in
theorem cw_M_ran : Cond.code m_M_ran.1 m_M_ran.2.1 m_M_ran.2.2.1 m_M_ran.2.2.2 ∈ gtb := gi 1406 rfl rfl
set_option maxRecDepth 100000 in
theorem lk_M_326 : LkV "SevenEightsModel" 326 m_M_ran 1 11 := ⟨gi 1403 rfl rfl, gi 1405 rfl rfl, gs (q := (⟨"SevenEightsModel", "ran", "(I)V"⟩, 41)) 56 rfl rfl, gi 12 rfl rfl, cw_M_ran, by decide, ⟨by decide, by decide, by decide +kernel⟩, _, rfl, rfl⟩
set_option maxRecDepth 100000 in
theorem fl_M_329 : FL "SevenEightsModel" 329 11 32 := ⟨R_M, F_M, 41, rfl, by decide, gi 921 rfl rfl, uw_M⟩
set_option maxRecDepth 100000 in
theorem fp_M_329 : FP "SevenEightsModel" 329 11 32 .int := ⟨R_M, F_M, 41, t_M, rfl, by decide, gi 921 rfl rfl, uw_M, t_M_ok, n_M, rfl, by decide +kernel⟩
set_option maxRecDepth 100000 in
theorem cw_M_plainSays : Cond.code m_M_plainSays.1 m_M_plainSays.2.1 m_M_plainSays.2.2.1 m_M_plainSays.2.2.2 ∈ gtb := gi 1410 rfl rfl
set_option maxRecDepth 100000 in
theorem lk_M_332 : LkV "SevenEightsModel" 332 m_M_plainSays 1 11 := ⟨gi 1407 rfl rfl, gi 1409 rfl rfl, gs (q := (⟨"SevenEightsModel", "plainSays", "(I)I"⟩, 41)) 57 rfl rfl, gi 12 rfl rfl, cw_M_plainSays, by decide, ⟨by decide, by decide, by decide +kernel⟩, _, rfl, rfl⟩
set_option maxRecDepth 100000 in
theorem fl_M_335 : FL "SevenEightsModel" 335 11 31 := ⟨R_M, F_M, 41, rfl, by decide, gi 920 rfl rfl, uw_M⟩
set_option maxRecDepth 100000 in
theorem fp_M_335 : FP "SevenEightsModel" 335 11 31 .int := ⟨R_M, F_M, 41, t_M, rfl, by decide, gi 920 rfl rfl, uw_M, t_M_ok, n_M, rfl, by decide +kernel⟩
set_option maxRecDepth 100000 in
theorem cw_M_parrotSays : Cond.code m_M_parrotSays.1 m_M_parrotSays.2.1 m_M_parrotSays.2.2.1 m_M_parrotSays.2.2.2 ∈ gtb := gi 1402 rfl rfl
set_option maxRecDepth 100000 in
theorem lk_M_338 : LkV "SevenEightsModel" 338 m_M_parrotSays 1 11 := ⟨gi 1399 rfl rfl, gi 1401 rfl rfl, gs (q := (⟨"SevenEightsModel", "parrotSays", "(I)I"⟩, 41)) 55 rfl rfl, gi 12 rfl rfl, cw_M_parrotSays, by decide, ⟨by decide, by decide, by decide +kernel⟩, _, rfl, rfl⟩
set_option maxRecDepth 100000 in
theorem cw_M_saysIt : Cond.code m_M_saysIt.1 m_M_saysIt.2.1 m_M_saysIt.2.2.1 m_M_saysIt.2.2.2 ∈ gtb := gi 1398 rfl rfl
set_option maxRecDepth 100000 in
theorem lk_M_341 : LkV "SevenEightsModel" 341 m_M_saysIt 1 11 := ⟨gi 1395 rfl rfl, gi 1397 rfl rfl, gs (q := (⟨"SevenEightsModel", "saysIt", "(I)I"⟩, 41)) 54 rfl rfl, gi 12 rfl rfl, cw_M_saysIt, by decide, ⟨by decide, by decide, by decide +kernel⟩, _, rfl, rfl⟩
set_option maxRecDepth 100000 in
theorem cw_M_plainLearns : Cond.code m_M_plainLearns.1 m_M_plainLearns.2.1 m_M_plainLearns.2.2.1 m_M_plainLearns.2.2.2 ∈ gtb := gi 1418 rfl rfl
set_option maxRecDepth 100000 in
theorem lk_M_344 : LkV "SevenEightsModel" 344 m_M_plainLearns 1 11 := ⟨gi 1415 rfl rfl, gi 1417 rfl rfl, gs (q := (⟨"SevenEightsModel", "plainLearns", "(I)I"⟩, 41)) 59 rfl rfl, gi 12 rfl rfl, cw_M_plainLearns, by decide, ⟨by decide, by decide, by decide +kernel⟩, _, rfl, rfl⟩
set_option maxRecDepth 100000 in
theorem fl_M_347 : FL "SevenEightsModel" 347 11 33 := ⟨R_M, F_M, 41, rfl, by decide, gi 922 rfl rfl, uw_M⟩
set_option maxRecDepth 100000 in
theorem fp_M_347 : FP "SevenEightsModel" 347 11 33 .int := ⟨R_M, F_M, 41, t_M, rfl, by decide, gi 922 rfl rfl, uw_M, t_M_ok, n_M, rfl, by decide +kernel⟩
set_option maxRecDepth 100000 in
theorem fl_M_350 : FL "SevenEightsModel" 350 11 36 := ⟨R_M, F_M, 41, rfl, by decide, gi 925 rfl rfl, uw_M⟩
set_option maxRecDepth 100000 in
theorem fp_M_350 : FP "SevenEightsModel" 350 11 36 .boolean := ⟨R_M, F_M, 41, t_M, rfl, by decide, gi 925 rfl rfl, uw_M, t_M_ok, n_M, rfl, by decide +kernel⟩
set_option maxRecDepth 100000 in
theorem cw_M_plainShares : Cond.code m_M_plainShares.1 m_M_plainShares.2.1 m_M_plainShares.2.2.1 m_M_plainShares.2.2.2 ∈ gtb := gi 1426 rfl rfl
set_option maxRecDepth 100000 in
theorem lk_M_353 : LkV "SevenEightsModel" 353 m_M_plainShares 1 11 := ⟨gi 1423 rfl rfl, gi 1425 rfl rfl, gs (q := (⟨"SevenEightsModel", "plainShares", "(I)I"⟩, 41)) 61 rfl rfl, gi 12 rfl rfl, cw_M_plainShares, by decide, ⟨by decide, by decide, by decide +kernel⟩, _, rfl, rfl⟩
set_option maxRecDepth 100000 in
theorem cw_M_learnsIt : Cond.code m_M_learnsIt.1 m_M_learnsIt.2.1 m_M_learnsIt.2.2.1 m_M_learnsIt.2.2.2 ∈ gtb := gi 1414 rfl rfl
set_option maxRecDepth 100000 in
theorem lk_M_356 : LkV "SevenEightsModel" 356 m_M_learnsIt 1 11 := ⟨gi 1411 rfl rfl, gi 1413 rfl rfl, gs (q := (⟨"SevenEightsModel", "learnsIt", "(I)I"⟩, 41)) 58 rfl rfl, gi 12 rfl rfl, cw_M_learnsIt, by decide, ⟨by decide, by decide, by decide +kernel⟩, _, rfl, rfl⟩
set_option maxRecDepth 100000 in
theorem cw_M_plainTells : Cond.code m_M_plainTells.1 m_M_plainTells.2.1 m_M_plainTells.2.2.1 m_M_plainTells.2.2.2 ∈ gtb := gi 1434 rfl rfl
set_option maxRecDepth 100000 in
theorem lk_M_359 : LkV "SevenEightsModel" 359 m_M_plainTells 1 11 := ⟨gi 1431 rfl rfl, gi 1433 rfl rfl, gs (q := (⟨"SevenEightsModel", "plainTells", "(I)I"⟩, 41)) 63 rfl rfl, gi 12 rfl rfl, cw_M_plainTells, by decide, ⟨by decide, by decide, by decide +kernel⟩, _, rfl, rfl⟩
set_option maxRecDepth 100000 in
theorem cw_M_sharesIt : Cond.code m_M_sharesIt.1 m_M_sharesIt.2.1 m_M_sharesIt.2.2.1 m_M_sharesIt.2.2.2 ∈ gtb := gi 1422 rfl rfl
set_option maxRecDepth 100000 in
theorem lk_M_362 : LkV "SevenEightsModel" 362 m_M_sharesIt 1 11 := ⟨gi 1419 rfl rfl, gi 1421 rfl rfl, gs (q := (⟨"SevenEightsModel", "sharesIt", "(I)I"⟩, 41)) 60 rfl rfl, gi 12 rfl rfl, cw_M_sharesIt, by decide, ⟨by decide, by decide, by decide +kernel⟩, _, rfl, rfl⟩
set_option maxRecDepth 100000 in
theorem cw_M_tellsIt : Cond.code m_M_tellsIt.1 m_M_tellsIt.2.1 m_M_tellsIt.2.2.1 m_M_tellsIt.2.2.2 ∈ gtb := gi 1430 rfl rfl
set_option maxRecDepth 100000 in
theorem lk_M_365 : LkV "SevenEightsModel" 365 m_M_tellsIt 1 11 := ⟨gi 1427 rfl rfl, gi 1429 rfl rfl, gs (q := (⟨"SevenEightsModel", "tellsIt", "(I)I"⟩, 41)) 62 rfl rfl, gi 12 rfl rfl, cw_M_tellsIt, by decide, ⟨by decide, by decide, by decide +kernel⟩, _, rfl, rfl⟩
set_option maxRecDepth 100000 in
theorem fl_M_368 : FL "SevenEightsModel" 368 11 39 := ⟨R_M, F_M, 41, rfl, by decide, gi 928 rfl rfl, uw_M⟩
set_option maxRecDepth 100000 in
theorem fp_M_368 : FP "SevenEightsModel" 368 11 39 .int := ⟨R_M, F_M, 41, t_M, rfl, by decide, gi 928 rfl rfl, uw_M, t_M_ok, n_M, rfl, by decide +kernel⟩
set_option maxRecDepth 100000 in
theorem cw_M_moveRow : Cond.code m_M_moveRow.1 m_M_moveRow.2.1 m_M_moveRow.2.2.1 m_M_moveRow.2.2.2 ∈ gtb := gi 1454 rfl rfl
set_option maxRecDepth 100000 in
theorem lk_M_371 : LkV "SevenEightsModel" 371 m_M_moveRow 3 11 := ⟨gi 1451 rfl rfl, gi 1453 rfl rfl, gs (q := (⟨"SevenEightsModel", "moveRow", "([IIZ)V"⟩, 41)) 65 rfl rfl, gi 12 rfl rfl, cw_M_moveRow, by decide, ⟨by decide, by decide, by decide +kernel⟩, _, rfl, rfl⟩
set_option maxRecDepth 100000 in
theorem cw_M_moveAll : Cond.code m_M_moveAll.1 m_M_moveAll.2.1 m_M_moveAll.2.2.1 m_M_moveAll.2.2.2 ∈ gtb := gi 1450 rfl rfl
set_option maxRecDepth 100000 in
theorem lk_M_375 : LkV "SevenEightsModel" 375 m_M_moveAll 1 11 := ⟨gi 1447 rfl rfl, gi 1449 rfl rfl, gs (q := (⟨"SevenEightsModel", "moveAll", "(Z)V"⟩, 41)) 64 rfl rfl, gi 12 rfl rfl, cw_M_moveAll, by decide, ⟨by decide, by decide, by decide +kernel⟩, _, rfl, rfl⟩
set_option maxRecDepth 100000 in
theorem fl_M_379 : FL "SevenEightsModel" 379 11 37 := ⟨R_M, F_M, 41, rfl, by decide, gi 926 rfl rfl, uw_M⟩
set_option maxRecDepth 100000 in
theorem fp_M_379 : FP "SevenEightsModel" 379 11 37 .boolean := ⟨R_M, F_M, 41, t_M, rfl, by decide, gi 926 rfl rfl, uw_M, t_M_ok, n_M, rfl, by decide +kernel⟩
