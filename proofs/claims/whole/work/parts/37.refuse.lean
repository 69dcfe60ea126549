/-! LAYER A: refusals -/
theorem i_lt8 {w : Int32} (h : w ≤ 7) : w < 8 := Int32.lt_of_le_of_lt h (by decide)
def x_inc (I : mI) (k : Nat) (w : Int32) : mI := sr I k (upd (I k) w.toNatClampNeg (I k w.toNatClampNeg + 1))
def x_which (n : Int32) : Int32 := if -10 < n then -n else -10 - n
def x_ref (I : mI) (n : Int32) : mI := if 0 < x_which n ∧ x_which n ≤ 7 then x_inc I 75 (x_which n) else I

set_option maxHeartbeats 1000000 in
theorem ok_X8_refuse (d : Nat) (I : mI) (L : mL) (n : Int32) : mm_Call (d + 1) 100 [.ref 0, .int n] (mm_sh, mm_R, I, L) (some (.int n)) (mm_sh, mm_R, (x_ref I n), L) := by
  refine mm_Call.of_go (d := d + 0) me_100 ⟨Nat.le_of_ble_eq_true rfl, rfl⟩ ?_
  show mm_Go mm_cs0 _ _ _ _ _ _ [some (.ref _), some (.int _), none] [] _ _ _
  refine go_iload_n dX8_refuse_0 rfl ?_
  refine go_pu (st' := .int (-10) :: _) dX8_refuse_1 rfl ?_
  refine go_icc (t := 13) dX8_refuse_3 (by decide) c2_gt (fun h1 => ?_) (fun h1 => ?_)
  · have h1' := Int32.not_le.mpr h1
    refine go_iload_n dX8_refuse_13 rfl ?_
    refine go_pu (st' := .int _ :: _) dX8_refuse_14 rfl ?_
    refine go_istore_n (ls' := [some (.ref _), some (.int _), some (.int _)]) dX8_refuse_15 rfl (Nat.le_of_ble_eq_true rfl) ?_
    refine go_iload_n dX8_refuse_16 rfl ?_
    refine go_ifc (t := 36) dX8_refuse_17 (by decide) c1_le (fun h2 => ?_) (fun h2 => ?_)
    · have h2' := Int32.not_lt.mpr h2
      refine go_iload_n dX8_refuse_36 rfl ?_
      refine go_iret dX8_refuse_37 rfl ?_ ?_
      · first | with_reducible rfl | (simp only [x_ref, x_which, x_inc, mm_u_sr, *, and_true, true_and, and_false, false_and, and_self, if_true, if_false, ite_true, ite_false]; done)
      · first | with_reducible rfl | (simp only [x_ref, x_which, x_inc, mm_u_sr, *, and_true, true_and, and_false, false_and, and_self, if_true, if_false, ite_true, ite_false]; done)
    · have h2' := Int32.not_le.mp h2
      refine go_iload_n dX8_refuse_20 rfl ?_
      refine go_pu (st' := .int (7) :: _) dX8_refuse_21 rfl ?_
      refine go_icc (t := 36) dX8_refuse_23 (by decide) c2_gt (fun h3 => ?_) (fun h3 => ?_)
      · have h3' := Int32.not_le.mpr h3
        refine go_iload_n dX8_refuse_36 rfl ?_
        refine go_iret dX8_refuse_37 rfl ?_ ?_
        · first | with_reducible rfl | (simp only [x_ref, x_which, x_inc, mm_u_sr, *, and_true, true_and, and_false, false_and, and_self, if_true, if_false, ite_true, ite_false]; done)
        · first | with_reducible rfl | (simp only [x_ref, x_which, x_inc, mm_u_sr, *, and_true, true_and, and_false, false_and, and_self, if_true, if_false, ite_true, ite_false]; done)
      · have h3' := Int32.not_lt.mp h3
        refine go_aload_n dX8_refuse_26 rfl ?_
        refine go_gr dX8_refuse_27 mf_8_67 rfl (by first | rfl | assumption | (simp only [*]; done)) (by first | rfl | assumption | (simp only [*]; done)) ?_
        refine go_iload_n dX8_refuse_30 rfl ?_
        refine go_pu dX8_refuse_31 rfl ?_
        refine go_ial dX8_refuse_32 rfl (by first | rfl | assumption | (simp only [*]; done)) (by first | exact mm_in_8.mpr ⟨Int32.le_of_lt h2', i_lt8 h3'⟩ | exact mm_in_8.mpr ⟨Int32.le_of_lt h4', i_lt8 h5'⟩) ?_
        refine go_pu (st' := .int (1) :: _) dX8_refuse_33 rfl ?_
        refine go_pu (st' := .int _ :: _) dX8_refuse_34 rfl ?_
        refine go_ias dX8_refuse_35 (by first | rfl | assumption | (simp only [*]; done)) (by first | exact mm_in_8.mpr ⟨Int32.le_of_lt h2', i_lt8 h3'⟩ | exact mm_in_8.mpr ⟨Int32.le_of_lt h4', i_lt8 h5'⟩) ?_
        refine go_iload_n dX8_refuse_36 rfl ?_
        refine go_iret dX8_refuse_37 rfl ?_ ?_
        · first | with_reducible rfl | (simp only [x_ref, x_which, x_inc, mm_u_sr, *, and_true, true_and, and_false, false_and, and_self, if_true, if_false, ite_true, ite_false]; done)
        · first | with_reducible rfl | (simp only [x_ref, x_which, x_inc, mm_u_sr, *, and_true, true_and, and_false, false_and, and_self, if_true, if_false, ite_true, ite_false]; done)
  · have h1' := Int32.not_lt.mp h1
    refine go_pu (st' := .int (-10) :: _) dX8_refuse_6 rfl ?_
    refine go_iload_n dX8_refuse_8 rfl ?_
    refine go_pu (st' := .int _ :: _) dX8_refuse_9 rfl ?_
    refine go_goto (t := 15) dX8_refuse_10 (by decide) ?_
    refine go_istore_n (ls' := [some (.ref _), some (.int _), some (.int _)]) dX8_refuse_15 rfl (Nat.le_of_ble_eq_true rfl) ?_
    refine go_iload_n dX8_refuse_16 rfl ?_
    refine go_ifc (t := 36) dX8_refuse_17 (by decide) c1_le (fun h4 => ?_) (fun h4 => ?_)
    · have h4' := Int32.not_lt.mpr h4
      refine go_iload_n dX8_refuse_36 rfl ?_
      refine go_iret dX8_refuse_37 rfl ?_ ?_
      · first | with_reducible rfl | (simp only [x_ref, x_which, x_inc, mm_u_sr, *, and_true, true_and, and_false, false_and, and_self, if_true, if_false, ite_true, ite_false]; done)
      · first | with_reducible rfl | (simp only [x_ref, x_which, x_inc, mm_u_sr, *, and_true, true_and, and_false, false_and, and_self, if_true, if_false, ite_true, ite_false]; done)
    · have h4' := Int32.not_le.mp h4
      refine go_iload_n dX8_refuse_20 rfl ?_
      refine go_pu (st' := .int (7) :: _) dX8_refuse_21 rfl ?_
      refine go_icc (t := 36) dX8_refuse_23 (by decide) c2_gt (fun h5 => ?_) (fun h5 => ?_)
      · have h5' := Int32.not_le.mpr h5
        refine go_iload_n dX8_refuse_36 rfl ?_
        refine go_iret dX8_refuse_37 rfl ?_ ?_
        · first | with_reducible rfl | (simp only [x_ref, x_which, x_inc, mm_u_sr, *, and_true, true_and, and_false, false_and, and_self, if_true, if_false, ite_true, ite_false]; done)
        · first | with_reducible rfl | (simp only [x_ref, x_which, x_inc, mm_u_sr, *, and_true, true_and, and_false, false_and, and_self, if_true, if_false, ite_true, ite_false]; done)
      · have h5' := Int32.not_lt.mp h5
        refine go_aload_n dX8_refuse_26 rfl ?_
        refine go_gr dX8_refuse_27 mf_8_67 rfl (by first | rfl | assumption | (simp only [*]; done)) (by first | rfl | assumption | (simp only [*]; done)) ?_
        refine go_iload_n dX8_refuse_30 rfl ?_
        refine go_pu dX8_refuse_31 rfl ?_
        refine go_ial dX8_refuse_32 rfl (by first | rfl | assumption | (simp only [*]; done)) (by first | exact mm_in_8.mpr ⟨Int32.le_of_lt h2', i_lt8 h3'⟩ | exact mm_in_8.mpr ⟨Int32.le_of_lt h4', i_lt8 h5'⟩) ?_
        refine go_pu (st' := .int (1) :: _) dX8_refuse_33 rfl ?_
        refine go_pu (st' := .int _ :: _) dX8_refuse_34 rfl ?_
        refine go_ias dX8_refuse_35 (by first | rfl | assumption | (simp only [*]; done)) (by first | exact mm_in_8.mpr ⟨Int32.le_of_lt h2', i_lt8 h3'⟩ | exact mm_in_8.mpr ⟨Int32.le_of_lt h4', i_lt8 h5'⟩) ?_
        refine go_iload_n dX8_refuse_36 rfl ?_
        refine go_iret dX8_refuse_37 rfl ?_ ?_
        · first | with_reducible rfl | (simp only [x_ref, x_which, x_inc, mm_u_sr, *, and_true, true_and, and_false, false_and, and_self, if_true, if_false, ite_true, ite_false]; done)
        · first | with_reducible rfl | (simp only [x_ref, x_which, x_inc, mm_u_sr, *, and_true, true_and, and_false, false_and, and_self, if_true, if_false, ite_true, ite_false]; done)

set_option maxHeartbeats 1000000 in
theorem ok_X9_no (d : Nat) (I : mI) (L : mL) (n : Int32) (hn : mm_in (-n) 8 = true) : mm_Call (d + 1) 127 [.ref 108, .int n] (mm_sh, mm_R, I, L) (some (.int (n))) (mm_sh, mm_R, (x_inc I 109 (-n)), L) := by
  refine mm_Call.of_go (d := d + 0) me_127 ⟨Nat.le_of_ble_eq_true rfl, rfl⟩ ?_
  show mm_Go mm_cs0 _ _ _ _ _ _ [some (.ref _), some (.int _)] [] _ _ _
  refine go_aload_n dX9_no_0 rfl ?_
  refine go_gr dX9_no_1 mf_9_28 rfl (by first | rfl | assumption | (simp only [*]; done)) (by first | rfl | assumption | (simp only [*]; done)) ?_
  refine go_iload_n dX9_no_4 rfl ?_
  refine go_pu (st' := .int _ :: _) dX9_no_5 rfl ?_
  refine go_pu dX9_no_6 rfl ?_
  refine go_ial dX9_no_7 rfl (by first | rfl | assumption | (simp only [*]; done)) hn ?_
  refine go_pu (st' := .int (1) :: _) dX9_no_8 rfl ?_
  refine go_pu (st' := .int _ :: _) dX9_no_9 rfl ?_
  refine go_ias dX9_no_10 (by first | rfl | assumption | (simp only [*]; done)) hn ?_
  refine go_iload_n dX9_no_11 rfl ?_
  refine go_iret dX9_no_12 rfl ?_ ?_
  · first | with_reducible rfl | (simp [x_inc, mm_u_sr, *]; done)
  · first | with_reducible rfl | (simp [x_inc, mm_u_sr, *]; done)

set_option maxHeartbeats 1000000 in
theorem ok_X9_noTen (d : Nat) (I : mI) (L : mL) (n : Int32) (hn : mm_in (-n) 8 = true) : mm_Call (d + 1) 128 [.ref 108, .int n] (mm_sh, mm_R, I, L) (some (.int (n - 10))) (mm_sh, mm_R, (x_inc I 109 (-n)), L) := by
  refine mm_Call.of_go (d := d + 0) me_128 ⟨Nat.le_of_ble_eq_true rfl, rfl⟩ ?_
  show mm_Go mm_cs0 _ _ _ _ _ _ [some (.ref _), some (.int _)] [] _ _ _
  refine go_aload_n dX9_noTen_0 rfl ?_
  refine go_gr dX9_noTen_1 mf_9_28 rfl (by first | rfl | assumption | (simp only [*]; done)) (by first | rfl | assumption | (simp only [*]; done)) ?_
  refine go_iload_n dX9_noTen_4 rfl ?_
  refine go_pu (st' := .int _ :: _) dX9_noTen_5 rfl ?_
  refine go_pu dX9_noTen_6 rfl ?_
  refine go_ial dX9_noTen_7 rfl (by first | rfl | assumption | (simp only [*]; done)) hn ?_
  refine go_pu (st' := .int (1) :: _) dX9_noTen_8 rfl ?_
  refine go_pu (st' := .int _ :: _) dX9_noTen_9 rfl ?_
  refine go_ias dX9_noTen_10 (by first | rfl | assumption | (simp only [*]; done)) hn ?_
  refine go_iload_n dX9_noTen_11 rfl ?_
  refine go_pu (st' := .int (10) :: _) dX9_noTen_12 rfl ?_
  refine go_pu (st' := .int _ :: _) dX9_noTen_14 rfl ?_
  refine go_iret dX9_noTen_15 rfl ?_ ?_
  · first | with_reducible rfl | (simp [x_inc, mm_u_sr, *]; done)
  · first | with_reducible rfl | (simp [x_inc, mm_u_sr, *]; done)
