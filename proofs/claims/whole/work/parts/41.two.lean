/-! LAYER A: times of two, the least ahead -/
def i_min (x y : Int32) : Int32 := if y < x then y else x
def i_max (x y : Int32) : Int32 := if x < y then y else x
def x_two (I : mI) (c e s : Int32) : mI :=
  let J := x_take I 62 1 c
  let a := I (5 + c.toNatClampNeg) 2
  let b := I (5 + e.toNatClampNeg) 2
  sr (sr J 63 (upd (upd (J 63) 2 (i_min a b)) 3 s)) 62 (upd (J 62) 1 (i_abs (a - b)))
def r_secs : Nat → mRow → mRow
  | 0, ρ => ρ
  | n + 1, ρ => r_secs n (r_sec ρ)

set_option maxHeartbeats 1000000 in
theorem ok_X8_timeOfTwo (d : Nat) (I : mI) (L : mL) (c e s : Int32) (ho : nOk I c) (he : 0 ≤ e ∧ e < I 1 1) : mm_Call (d + 5) 113 [.ref 0, .int c, .int e, .int s] (mm_sh, mm_R, I, L) (some (.int (x_tim (x_two I c e s)))) (mm_sh, mm_R, (x_end (x_two I c e s)), L) := by
  have hi8 : mm_in c 8 = true := mm_in_8.mpr ⟨ho.1.1, Int32.lt_of_lt_of_le ho.1.2 ho.2.1⟩
  have he8 : mm_in e 8 = true := mm_in_8.mpr ⟨he.1, Int32.lt_of_lt_of_le he.2 ho.2.1⟩
  obtain ⟨hj1, hj2, _, _⟩ := isF_1.2.2.2.2.2.2.2 _ (mm_in_lt hi8)
  obtain ⟨hk1, hk2, _, _⟩ := isF_1.2.2.2.2.2.2.2 _ (mm_in_lt he8)
  refine mm_Call.of_go (d := d + 4) me_113 ⟨Nat.le_of_ble_eq_true rfl, rfl⟩ ?_
  show mm_Go mm_cs0 _ _ _ _ _ _ [some (.ref _), some (.int _), some (.int _), some (.int _), none, none] [] _ _ _
  refine go_aload_n dX8_timeOfTwo_0 rfl ?_
  refine go_gr dX8_timeOfTwo_1 mf_8_10 rfl (by first | rfl | assumption | (simp only [*]; done)) (by first | rfl | assumption | (simp only [*]; done)) ?_
  refine go_gr dX8_timeOfTwo_4 mf_8_138 rfl (by first | rfl | assumption | (simp only [*]; done)) (by first | rfl | assumption | (simp only [*]; done)) ?_
  refine go_iload_n dX8_timeOfTwo_7 rfl ?_
  refine go_aal dX8_timeOfTwo_8 (by first | rfl | assumption | (simp only [*]; done)) (by decide) hi8 hj1 ?_
  refine go_gi dX8_timeOfTwo_9 mf_8_182 (by decide) hj2 ?_
  refine go_istore (ls' := [some (.ref _), some (.int _), some (.int _), some (.int _), some (.int _), none]) dX8_timeOfTwo_12 rfl (Nat.le_of_ble_eq_true rfl) ?_
  refine go_aload_n dX8_timeOfTwo_14 rfl ?_
  refine go_gr dX8_timeOfTwo_15 mf_8_10 rfl (by first | rfl | assumption | (simp only [*]; done)) (by first | rfl | assumption | (simp only [*]; done)) ?_
  refine go_gr dX8_timeOfTwo_18 mf_8_138 rfl (by first | rfl | assumption | (simp only [*]; done)) (by first | rfl | assumption | (simp only [*]; done)) ?_
  refine go_iload_n dX8_timeOfTwo_21 rfl ?_
  refine go_aal dX8_timeOfTwo_22 (by first | rfl | assumption | (simp only [*]; done)) (by decide) he8 hk1 ?_
  refine go_gi dX8_timeOfTwo_23 mf_8_182 (by decide) hk2 ?_
  refine go_istore (ls' := [some (.ref _), some (.int _), some (.int _), some (.int _), some (.int _), some (.int _)]) dX8_timeOfTwo_26 rfl (Nat.le_of_ble_eq_true rfl) ?_
  refine go_aload_n dX8_timeOfTwo_28 rfl ?_
  refine go_gr dX8_timeOfTwo_29 mf_8_31 rfl (by first | rfl | assumption | (simp only [*]; done)) (by first | rfl | assumption | (simp only [*]; done)) ?_
  refine go_aload_n dX8_timeOfTwo_32 rfl ?_
  refine go_gr dX8_timeOfTwo_33 mf_8_10 rfl (by first | rfl | assumption | (simp only [*]; done)) (by first | rfl | assumption | (simp only [*]; done)) ?_
  refine go_iload_n dX8_timeOfTwo_36 rfl ?_
  refine go_call (kind := 1) (args := [.ref _, .ref _, .int _]) (rest := _) dX8_timeOfTwo_37 (Or.inr (Or.inl ⟨rfl, rfl⟩)) mk_8_167 (by decide) me_22 rfl rfl rfl rfl rfl (mm_rc_of (by first | rfl | assumption | (simp only [*]; done))) (ok_X4_take _ _ _ 62 1 _ isRa_62 isF_1 (by decide) ho.1 ho.2.1 ho.2.2.2.1) rfl ?_
  refine go_aload_n dX8_timeOfTwo_40 rfl ?_
  refine go_gr dX8_timeOfTwo_41 mf_8_31 rfl (by first | rfl | assumption | (simp only [*]; done)) (by first | rfl | assumption | (simp only [*]; done)) ?_
  refine go_gr dX8_timeOfTwo_44 mf_8_175 rfl (by first | rfl | assumption | (simp only [*]; done)) (by first | rfl | assumption | (simp only [*]; done)) ?_
  refine go_iload dX8_timeOfTwo_47 rfl ?_
  refine go_iload dX8_timeOfTwo_49 rfl ?_
  refine go_bi (kind := 0) (args := [.int _, .int _]) (rest := _) dX8_timeOfTwo_51 (Or.inl ⟨rfl, rfl⟩) mk_8_366 (by decide) rfl rfl rfl rfl rfl rfl ?_
  refine go_pi dX8_timeOfTwo_54 mf_8_182 rfl rfl (by first | rfl | assumption | (simp only [*]; done)) ?_
  refine go_aload_n dX8_timeOfTwo_57 rfl ?_
  refine go_gr dX8_timeOfTwo_58 mf_8_31 rfl (by first | rfl | assumption | (simp only [*]; done)) (by first | rfl | assumption | (simp only [*]; done)) ?_
  refine go_gr dX8_timeOfTwo_61 mf_8_175 rfl (by first | rfl | assumption | (simp only [*]; done)) (by first | rfl | assumption | (simp only [*]; done)) ?_
  refine go_iload_n dX8_timeOfTwo_64 rfl ?_
  refine go_pi dX8_timeOfTwo_65 mf_8_185 rfl rfl (by first | rfl | assumption | (simp only [*]; done)) ?_
  refine go_aload_n dX8_timeOfTwo_68 rfl ?_
  refine go_gr dX8_timeOfTwo_69 mf_8_31 rfl (by first | rfl | assumption | (simp only [*]; done)) (by first | rfl | assumption | (simp only [*]; done)) ?_
  refine go_iload dX8_timeOfTwo_72 rfl ?_
  refine go_iload dX8_timeOfTwo_74 rfl ?_
  refine go_pu (st' := .int _ :: _) dX8_timeOfTwo_76 rfl ?_
  refine go_bi (kind := 0) (args := [.int _]) (rest := _) dX8_timeOfTwo_77 (Or.inl ⟨rfl, rfl⟩) mk_8_371 (by decide) rfl rfl rfl rfl rfl rfl ?_
  refine go_pi dX8_timeOfTwo_80 mf_8_374 rfl rfl (by first | rfl | assumption | (simp only [*]; done)) ?_
  refine go_aload_n dX8_timeOfTwo_83 rfl ?_
  refine go_gr dX8_timeOfTwo_84 mf_8_31 rfl (by first | rfl | assumption | (simp only [*]; done)) (by first | rfl | assumption | (simp only [*]; done)) ?_
  refine go_aload_n dX8_timeOfTwo_87 rfl ?_
  refine go_gr dX8_timeOfTwo_88 mf_8_10 rfl (by first | rfl | assumption | (simp only [*]; done)) (by first | rfl | assumption | (simp only [*]; done)) ?_
  refine go_call (kind := 1) (args := [.ref _, .ref _]) (rest := _) dX8_timeOfTwo_91 (Or.inr (Or.inl ⟨rfl, rfl⟩)) mk_8_319 (by decide) me_32 rfl rfl rfl rfl rfl (mm_rc_of (by first | rfl | assumption | (simp only [*]; done))) (ok_X4_timeToRope _ _ _ 62 1 isRa_62 isF_1 (by decide) (by simpa [x_take_62, x_take_63, x_take_o, c_become_0, sr_same, sr_other, up_s, up_o, mm_u_sr, x_two] using ho.2.2.2.2) (by simpa [x_take_62, x_take_63, x_take_o, c_become_0, sr_same, sr_other, up_s, up_o, mm_u_sr, x_two] using ho.2.2.1)) rfl ?_
  refine go_iret dX8_timeOfTwo_94 rfl ?_ ?_
  · first | with_reducible rfl | (simp only [x_end, x_tim, x_two, i_min, i_abs, mm_u_sr]; done) | (simp [x_end, x_tim, x_two, i_min, i_abs, mm_u_sr, sr_same, sr_other, sr_sr, up_up]; done)
  · first | with_reducible rfl | (simp only [x_end, x_tim, x_two, i_min, i_abs, mm_u_sr]; done) | (simp [x_end, x_tim, x_two, i_min, i_abs, mm_u_sr, sr_same, sr_other, sr_sr, up_up]; done)
