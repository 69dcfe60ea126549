/-! LAYER A: rows wanted -/
def x_why (I : mI) (s : Int32) : Int32 := if ¬ (0 ≤ s ∧ s < 8) then -1 else if 0 ≤ I (76 + 2 * s.toNatClampNeg) 0 ∧ I (76 + 2 * s.toNatClampNeg) 0 < 100 then -2 else if 100 ≤ I (76 + 2 * s.toNatClampNeg) 0 then 0 else -3
def m_want (I : mI) (s : Int32) : Int32 := if ¬ (0 ≤ s ∧ s < 8) then -1 else if I 118 s.toNatClampNeg = 2 then -2 else if I 118 s.toNatClampNeg = 0 then -3 else 0

set_option maxHeartbeats 1000000 in
theorem ok_X8_whyNoRow (d : Nat) (I : mI) (L : mL) (s : Int32) : mm_Call (d + 2) 107 [.ref 0, .int s] (mm_sh, mm_R, I, L) (some (.int (x_why I s))) (mm_sh, mm_R, I, L) := by
  refine mm_Call.of_go (d := d + 1) me_107 ⟨Nat.le_of_ble_eq_true rfl, rfl⟩ ?_
  show mm_Go mm_cs0 _ _ _ _ _ _ [some (.ref _), some (.int _)] [] _ _ _
  refine go_iload_n dX8_whyNoRow_0 rfl ?_
  refine go_call (kind := 0) (args := [.int _]) (rest := _) dX8_whyNoRow_1 (Or.inl ⟨rfl, rfl⟩) mk_8_75 (by decide) me_101 rfl rfl rfl rfl rfl rfl (ok_X8_isShelf _ _ _ _) rfl ?_
  refine go_ifc (t := 9) dX8_whyNoRow_4 (by decide) c1_ne (fun h1 => ?_) (fun h1 => ?_)
  · have hi8 : mm_in s 8 = true := mm_in_8.mpr (Classical.not_not.mp (fun z => h1 (bi_0.mpr z)))
    refine go_aload_n dX8_whyNoRow_9 rfl ?_
    refine go_gr dX8_whyNoRow_10 mf_8_24 rfl (by first | rfl | exact (isSh_c _ (mm_in_lt hi8)).1.1) rfl ?_
    refine go_iload_n dX8_whyNoRow_13 rfl ?_
    refine go_aal dX8_whyNoRow_14 (by first | rfl | exact (isSh_c _ (mm_in_lt hi8)).1.1) (by decide) hi8 (isSh_c _ (mm_in_lt hi8)).2 ?_
    refine go_call (kind := 1) (args := [.ref _]) (rest := _) dX8_whyNoRow_15 (Or.inr (Or.inl ⟨rfl, rfl⟩)) mk_8_97 (by decide) me_50 rfl rfl rfl rfl rfl (mm_rc_of (by first | rfl | exact (isSh_c _ (mm_in_lt hi8)).1.1)) (ok_X7_hasChild _ _ _ _ (isSh_c _ (mm_in_lt hi8)).1.1) rfl ?_
    refine go_ifc (t := 24) dX8_whyNoRow_18 (by decide) c1_eq (fun h2 => ?_) (fun h2 => ?_)
    · refine go_aload_n dX8_whyNoRow_24 rfl ?_
      refine go_gr dX8_whyNoRow_25 mf_8_24 rfl (by first | rfl | exact (isSh_c _ (mm_in_lt hi8)).1.1) rfl ?_
      refine go_iload_n dX8_whyNoRow_28 rfl ?_
      refine go_aal dX8_whyNoRow_29 (by first | rfl | exact (isSh_c _ (mm_in_lt hi8)).1.1) (by decide) hi8 (isSh_c _ (mm_in_lt hi8)).2 ?_
      refine go_call (kind := 1) (args := [.ref _]) (rest := _) dX8_whyNoRow_30 (Or.inr (Or.inl ⟨rfl, rfl⟩)) mk_8_105 (by decide) me_49 rfl rfl rfl rfl rfl (mm_rc_of (by first | rfl | exact (isSh_c _ (mm_in_lt hi8)).1.1)) (ok_X7_hasRow _ _ _ _ (isSh_c _ (mm_in_lt hi8)).1.1) rfl ?_
      refine go_ifc (t := 40) dX8_whyNoRow_33 (by decide) c1_eq (fun h3 => ?_) (fun h3 => ?_)
      · refine go_pu (st' := .int (-3) :: _) dX8_whyNoRow_40 rfl ?_
        refine go_iret dX8_whyNoRow_42 rfl ?_ ?_
        · first | with_reducible rfl | (simp only [x_why, bi_0, bi_1, Classical.not_not] at *; simp [x_why, *]; done) | (simp_all [x_why, bi_0]; done)
        · first | with_reducible rfl | (simp only [x_why, bi_0, bi_1, Classical.not_not] at *; simp [x_why, *]; done) | (simp_all [x_why, bi_0]; done)
      · refine go_pu (st' := .int (0) :: _) dX8_whyNoRow_36 rfl ?_
        refine go_goto (t := 42) dX8_whyNoRow_37 (by decide) ?_
        refine go_iret dX8_whyNoRow_42 rfl ?_ ?_
        · first | with_reducible rfl | (simp only [x_why, bi_0, bi_1, Classical.not_not] at *; simp [x_why, *]; done) | (simp_all [x_why, bi_0]; done)
        · first | with_reducible rfl | (simp only [x_why, bi_0, bi_1, Classical.not_not] at *; simp [x_why, *]; done) | (simp_all [x_why, bi_0]; done)
    · refine go_pu (st' := .int (-2) :: _) dX8_whyNoRow_21 rfl ?_
      refine go_iret dX8_whyNoRow_23 rfl ?_ ?_
      · first | with_reducible rfl | (simp only [x_why, bi_0, bi_1, Classical.not_not] at *; simp [x_why, *]; done) | (simp_all [x_why, bi_0]; done)
      · first | with_reducible rfl | (simp only [x_why, bi_0, bi_1, Classical.not_not] at *; simp [x_why, *]; done) | (simp_all [x_why, bi_0]; done)
  · refine go_pu (st' := .int (-1) :: _) dX8_whyNoRow_7 rfl ?_
    refine go_iret dX8_whyNoRow_8 rfl ?_ ?_
    · first | with_reducible rfl | (simp only [x_why, bi_0, bi_1, Classical.not_not] at *; simp [x_why, *]; done) | (simp_all [x_why, bi_0]; done)
    · first | with_reducible rfl | (simp only [x_why, bi_0, bi_1, Classical.not_not] at *; simp [x_why, *]; done) | (simp_all [x_why, bi_0]; done)
