/-! PILOT: the racer -/
theorem mm_rc_of {e : mm_Me} {k : Nat} {as : List Value} {M : mm_M} (h : M.1[k]? = some (e.2.1, 0)) : mm_rc e (.ref k :: as) M = true := by
  unfold mm_rc
  split
  · rfl
  · exact decide_eq_true h
abbrev mI : Type := Nat → Nat → Int32
abbrev mL : Type := Nat → Nat → Int64
/-- r is a racer, r + 1 its child -/
def isRa (r : Nat) : Prop := mm_sh[r]? = some (4, 0) ∧ mm_R r 0 = some (r + 1) ∧ mm_sh[r + 1]? = some (0, 0)
def x_riskNow (I : mI) (r : Nat) : Int32 := if I r 7 ≤ I r 10 then I r 8 else I r 8 + 20
def x_lie (I : mI) (r : Nat) : mI :=
  let I := mm_u I r 12 (I r 12 - 1)
  let I := mm_u I r 10 (if I r 10 + 2 < 60 then I r 10 + 2 else 60)
  let I := if I r 2 = 0 then I else mm_u I r 9 (I r 9 + 1)
  mm_u I r 15 (I r 15 + 1)

set_option maxHeartbeats 1000000 in
theorem ok_X4_riskNow (d : Nat) (I : mI) (L : mL) (r : Nat) (hr : mm_sh[r]? = some (4, 0)) : mm_Call (d + 1) 26 [.ref r] (mm_sh, mm_R, I, L) (some (.int (x_riskNow I r))) (mm_sh, mm_R, I, L) := by
  refine mm_Call.of_go (d := d + 0) me_26 ⟨Nat.le_of_ble_eq_true rfl, rfl⟩ ?_
  show mm_Go mm_cs0 _ _ _ _ _ _ [some (.ref _)] [] _ _ _
  refine go_aload_n dX4_riskNow_0 rfl ?_
  refine go_gi dX4_riskNow_1 mf_4_111 (by decide) (by first | rfl | assumption | (simp only [*]; done)) ?_
  refine go_aload_n dX4_riskNow_4 rfl ?_
  refine go_gi dX4_riskNow_5 mf_4_84 (by decide) (by first | rfl | assumption | (simp only [*]; done)) ?_
  refine go_icc (t := 21) dX4_riskNow_8 (by decide) c2_ge (fun h1 => ?_) (fun h1 => ?_)
  · refine go_aload_n dX4_riskNow_21 rfl ?_
    refine go_gi dX4_riskNow_22 mf_4_87 (by decide) (by first | rfl | assumption | (simp only [*]; done)) ?_
    refine go_iret dX4_riskNow_25 rfl ?_ ?_
    · first | rfl | simp only [x_riskNow, *, if_true, if_false]
    · first | rfl | simp only [x_riskNow, *, if_true, if_false]
  · refine go_aload_n dX4_riskNow_11 rfl ?_
    refine go_gi dX4_riskNow_12 mf_4_87 (by decide) (by first | rfl | assumption | (simp only [*]; done)) ?_
    refine go_pu (st' := .int (20) :: _) dX4_riskNow_15 rfl ?_
    refine go_pu (st' := .int _ :: _) dX4_riskNow_17 rfl ?_
    refine go_goto (t := 25) dX4_riskNow_18 (by decide) ?_
    refine go_iret dX4_riskNow_25 rfl ?_ ?_
    · first | rfl | simp only [x_riskNow, *, if_true, if_false]
    · first | rfl | simp only [x_riskNow, *, if_true, if_false]

set_option maxHeartbeats 1000000 in
theorem ok_X4_lie (d : Nat) (I : mI) (L : mL) (r : Nat) (hr : mm_sh[r]? = some (4, 0)) : mm_Call (d + 1) 27 [.ref r] (mm_sh, mm_R, I, L) none (mm_sh, mm_R, (x_lie I r), L) := by
  refine mm_Call.of_go (d := d + 0) me_27 ⟨Nat.le_of_ble_eq_true rfl, rfl⟩ ?_
  show mm_Go mm_cs0 _ _ _ _ _ _ [some (.ref _)] [] _ _ _
  refine go_aload_n dX4_lie_0 rfl ?_
  refine go_pu dX4_lie_1 rfl ?_
  refine go_gi dX4_lie_2 mf_4_123 (by decide) (by first | rfl | assumption | (simp only [*]; done)) ?_
  refine go_pu (st' := .int (1) :: _) dX4_lie_5 rfl ?_
  refine go_pu (st' := .int _ :: _) dX4_lie_6 rfl ?_
  refine go_pi dX4_lie_7 mf_4_123 rfl rfl (by first | rfl | assumption | (simp only [*]; done)) ?_
  refine go_aload_n dX4_lie_10 rfl ?_
  refine go_pu (st' := .int (60) :: _) dX4_lie_11 rfl ?_
  refine go_aload_n dX4_lie_13 rfl ?_
  refine go_gi dX4_lie_14 mf_4_111 (by decide) (by first | rfl | assumption | (simp only [*]; done)) ?_
  refine go_pu (st' := .int (2) :: _) dX4_lie_17 rfl ?_
  refine go_pu (st' := .int _ :: _) dX4_lie_18 rfl ?_
  refine go_bi (kind := 0) (args := [.int _, .int _]) (rest := _) dX4_lie_19 (Or.inl ⟨rfl, rfl⟩) mk_4_135 (by decide) rfl rfl rfl rfl rfl rfl ?_
  refine go_pi dX4_lie_22 mf_4_111 rfl rfl (by first | rfl | assumption | (simp only [*]; done)) ?_
  refine go_aload_n dX4_lie_25 rfl ?_
  refine go_gi dX4_lie_26 mf_4_43 (by decide) (by first | rfl | assumption | (simp only [*]; done)) ?_
  refine go_ifc (t := 42) dX4_lie_29 (by decide) c1_eq (fun h1 => ?_) (fun h1 => ?_)
  · refine go_aload_n dX4_lie_42 rfl ?_
    refine go_pu dX4_lie_43 rfl ?_
    refine go_gi dX4_lie_44 mf_4_129 (by decide) (by first | rfl | assumption | (simp only [*]; done)) ?_
    refine go_pu (st' := .int (1) :: _) dX4_lie_47 rfl ?_
    refine go_pu (st' := .int _ :: _) dX4_lie_48 rfl ?_
    refine go_pi dX4_lie_49 mf_4_129 rfl rfl (by first | rfl | assumption | (simp only [*]; done)) ?_
    refine go_vret dX4_lie_52 rfl ?_ ?_
    · first | rfl | simp only [x_lie, *, if_true, if_false]
    · first | rfl | simp only [x_lie, *, if_true, if_false]
  · refine go_aload_n dX4_lie_32 rfl ?_
    refine go_pu dX4_lie_33 rfl ?_
    refine go_gi dX4_lie_34 mf_4_117 (by decide) (by first | rfl | assumption | (simp only [*]; done)) ?_
    refine go_pu (st' := .int (1) :: _) dX4_lie_37 rfl ?_
    refine go_pu (st' := .int _ :: _) dX4_lie_38 rfl ?_
    refine go_pi dX4_lie_39 mf_4_117 rfl rfl (by first | rfl | assumption | (simp only [*]; done)) ?_
    refine go_aload_n dX4_lie_42 rfl ?_
    refine go_pu dX4_lie_43 rfl ?_
    refine go_gi dX4_lie_44 mf_4_129 (by decide) (by first | rfl | assumption | (simp only [*]; done)) ?_
    refine go_pu (st' := .int (1) :: _) dX4_lie_47 rfl ?_
    refine go_pu (st' := .int _ :: _) dX4_lie_48 rfl ?_
    refine go_pi dX4_lie_49 mf_4_129 rfl rfl (by first | rfl | assumption | (simp only [*]; done)) ?_
    refine go_vret dX4_lie_52 rfl ?_ ?_
    · first | rfl | simp only [x_lie, *, if_true, if_false]
    · first | rfl | simp only [x_lie, *, if_true, if_false]
