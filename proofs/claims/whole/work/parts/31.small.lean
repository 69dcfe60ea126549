/-! LAYER A: small predicates and reads. bi p: a truth as an int -/
def bi (p : Prop) [Decidable p] : Int32 := if p then 1 else 0
theorem bi_t {p : Prop} [Decidable p] (h : p) : bi p = 1 := if_pos h
theorem bi_f {p : Prop} [Decidable p] (h : ¬ p) : bi p = 0 := if_neg h
theorem bi_0 {p : Prop} [Decidable p] : bi p = 0 ↔ ¬ p := by by_cases h : p <;> simp [bi, h]
theorem bi_1 {p : Prop} [Decidable p] : bi p = 1 ↔ p := by by_cases h : p <;> simp [bi, h]
theorem bi_01 {p : Prop} [Decidable p] : bi p = 0 ∨ bi p = 1 := by by_cases h : p <;> simp [bi, h]

set_option maxHeartbeats 1000000 in
theorem ok_X8_isShelf (d : Nat) (I : mI) (L : mL) (x : Int32) : mm_Call (d + 1) 101 [.int x] (mm_sh, mm_R, I, L) (some (.int (bi (0 ≤ x ∧ x < 8)))) (mm_sh, mm_R, I, L) := by
  refine mm_Call.of_go (d := d + 0) me_101 ⟨Nat.le_of_ble_eq_true rfl, rfl⟩ ?_
  show mm_Go mm_cs0 _ _ _ _ _ _ [some (.int _)] [] _ _ _
  refine go_iload_n dX8_isShelf_0 rfl ?_
  refine go_ifc (t := 14) dX8_isShelf_1 (by decide) c1_lt (fun h1 => ?_) (fun h1 => ?_)
  · have h1' := Int32.not_le.mpr h1
    refine go_pu (st' := .int (0) :: _) dX8_isShelf_14 rfl ?_
    refine go_zret dX8_isShelf_15 rfl (by first | exact Or.inl rfl | exact Or.inr rfl | assumption) ?_ ?_
    · first | rfl | (simp [bi, mm_u_sr, sr_same, sr_sr, up_s, up_o, *]; done) | ((try simp [mm_u_sr, sr_same, sr_sr, up_s, up_o, -Int32.not_lt, -Int32.not_le] at *) <;> simp [bi, mm_u_sr, sr_same, sr_sr, up_s, up_o, *, -Int32.not_lt, -Int32.not_le]; done) | (simp_all [bi, mm_u_sr, sr_same, sr_sr, up_s, up_o]; done)
    · first | rfl | (simp [bi, mm_u_sr, sr_same, sr_sr, up_s, up_o, *]; done) | ((try simp [mm_u_sr, sr_same, sr_sr, up_s, up_o, -Int32.not_lt, -Int32.not_le] at *) <;> simp [bi, mm_u_sr, sr_same, sr_sr, up_s, up_o, *, -Int32.not_lt, -Int32.not_le]; done) | (simp_all [bi, mm_u_sr, sr_same, sr_sr, up_s, up_o]; done)
  · have h1' := Int32.not_lt.mp h1
    refine go_iload_n dX8_isShelf_4 rfl ?_
    refine go_pu (st' := .int (8) :: _) dX8_isShelf_5 rfl ?_
    refine go_icc (t := 14) dX8_isShelf_7 (by decide) c2_ge (fun h2 => ?_) (fun h2 => ?_)
    · have h2' := Int32.not_lt.mpr h2
      refine go_pu (st' := .int (0) :: _) dX8_isShelf_14 rfl ?_
      refine go_zret dX8_isShelf_15 rfl (by first | exact Or.inl rfl | exact Or.inr rfl | assumption) ?_ ?_
      · first | rfl | (simp [bi, mm_u_sr, sr_same, sr_sr, up_s, up_o, *]; done) | ((try simp [mm_u_sr, sr_same, sr_sr, up_s, up_o, -Int32.not_lt, -Int32.not_le] at *) <;> simp [bi, mm_u_sr, sr_same, sr_sr, up_s, up_o, *, -Int32.not_lt, -Int32.not_le]; done) | (simp_all [bi, mm_u_sr, sr_same, sr_sr, up_s, up_o]; done)
      · first | rfl | (simp [bi, mm_u_sr, sr_same, sr_sr, up_s, up_o, *]; done) | ((try simp [mm_u_sr, sr_same, sr_sr, up_s, up_o, -Int32.not_lt, -Int32.not_le] at *) <;> simp [bi, mm_u_sr, sr_same, sr_sr, up_s, up_o, *, -Int32.not_lt, -Int32.not_le]; done) | (simp_all [bi, mm_u_sr, sr_same, sr_sr, up_s, up_o]; done)
    · have h2' := Int32.not_le.mp h2
      refine go_pu (st' := .int (1) :: _) dX8_isShelf_10 rfl ?_
      refine go_goto (t := 15) dX8_isShelf_11 (by decide) ?_
      refine go_zret dX8_isShelf_15 rfl (by first | exact Or.inl rfl | exact Or.inr rfl | assumption) ?_ ?_
      · first | rfl | (simp [bi, mm_u_sr, sr_same, sr_sr, up_s, up_o, *]; done) | ((try simp [mm_u_sr, sr_same, sr_sr, up_s, up_o, -Int32.not_lt, -Int32.not_le] at *) <;> simp [bi, mm_u_sr, sr_same, sr_sr, up_s, up_o, *, -Int32.not_lt, -Int32.not_le]; done) | (simp_all [bi, mm_u_sr, sr_same, sr_sr, up_s, up_o]; done)
      · first | rfl | (simp [bi, mm_u_sr, sr_same, sr_sr, up_s, up_o, *]; done) | ((try simp [mm_u_sr, sr_same, sr_sr, up_s, up_o, -Int32.not_lt, -Int32.not_le] at *) <;> simp [bi, mm_u_sr, sr_same, sr_sr, up_s, up_o, *, -Int32.not_lt, -Int32.not_le]; done) | (simp_all [bi, mm_u_sr, sr_same, sr_sr, up_s, up_o]; done)

set_option maxHeartbeats 1000000 in
theorem ok_X8_isKind (d : Nat) (I : mI) (L : mL) (x : Int32) : mm_Call (d + 1) 102 [.int x] (mm_sh, mm_R, I, L) (some (.int (bi (0 ≤ x ∧ x < 7)))) (mm_sh, mm_R, I, L) := by
  refine mm_Call.of_go (d := d + 0) me_102 ⟨Nat.le_of_ble_eq_true rfl, rfl⟩ ?_
  show mm_Go mm_cs0 _ _ _ _ _ _ [some (.int _)] [] _ _ _
  refine go_iload_n dX8_isKind_0 rfl ?_
  refine go_ifc (t := 14) dX8_isKind_1 (by decide) c1_lt (fun h1 => ?_) (fun h1 => ?_)
  · have h1' := Int32.not_le.mpr h1
    refine go_pu (st' := .int (0) :: _) dX8_isKind_14 rfl ?_
    refine go_zret dX8_isKind_15 rfl (by first | exact Or.inl rfl | exact Or.inr rfl | assumption) ?_ ?_
    · first | rfl | (simp [bi, mm_u_sr, sr_same, sr_sr, up_s, up_o, *]; done) | ((try simp [mm_u_sr, sr_same, sr_sr, up_s, up_o, -Int32.not_lt, -Int32.not_le] at *) <;> simp [bi, mm_u_sr, sr_same, sr_sr, up_s, up_o, *, -Int32.not_lt, -Int32.not_le]; done) | (simp_all [bi, mm_u_sr, sr_same, sr_sr, up_s, up_o]; done)
    · first | rfl | (simp [bi, mm_u_sr, sr_same, sr_sr, up_s, up_o, *]; done) | ((try simp [mm_u_sr, sr_same, sr_sr, up_s, up_o, -Int32.not_lt, -Int32.not_le] at *) <;> simp [bi, mm_u_sr, sr_same, sr_sr, up_s, up_o, *, -Int32.not_lt, -Int32.not_le]; done) | (simp_all [bi, mm_u_sr, sr_same, sr_sr, up_s, up_o]; done)
  · have h1' := Int32.not_lt.mp h1
    refine go_iload_n dX8_isKind_4 rfl ?_
    refine go_pu (st' := .int (7) :: _) dX8_isKind_5 rfl ?_
    refine go_icc (t := 14) dX8_isKind_7 (by decide) c2_ge (fun h2 => ?_) (fun h2 => ?_)
    · have h2' := Int32.not_lt.mpr h2
      refine go_pu (st' := .int (0) :: _) dX8_isKind_14 rfl ?_
      refine go_zret dX8_isKind_15 rfl (by first | exact Or.inl rfl | exact Or.inr rfl | assumption) ?_ ?_
      · first | rfl | (simp [bi, mm_u_sr, sr_same, sr_sr, up_s, up_o, *]; done) | ((try simp [mm_u_sr, sr_same, sr_sr, up_s, up_o, -Int32.not_lt, -Int32.not_le] at *) <;> simp [bi, mm_u_sr, sr_same, sr_sr, up_s, up_o, *, -Int32.not_lt, -Int32.not_le]; done) | (simp_all [bi, mm_u_sr, sr_same, sr_sr, up_s, up_o]; done)
      · first | rfl | (simp [bi, mm_u_sr, sr_same, sr_sr, up_s, up_o, *]; done) | ((try simp [mm_u_sr, sr_same, sr_sr, up_s, up_o, -Int32.not_lt, -Int32.not_le] at *) <;> simp [bi, mm_u_sr, sr_same, sr_sr, up_s, up_o, *, -Int32.not_lt, -Int32.not_le]; done) | (simp_all [bi, mm_u_sr, sr_same, sr_sr, up_s, up_o]; done)
    · have h2' := Int32.not_le.mp h2
      refine go_pu (st' := .int (1) :: _) dX8_isKind_10 rfl ?_
      refine go_goto (t := 15) dX8_isKind_11 (by decide) ?_
      refine go_zret dX8_isKind_15 rfl (by first | exact Or.inl rfl | exact Or.inr rfl | assumption) ?_ ?_
      · first | rfl | (simp [bi, mm_u_sr, sr_same, sr_sr, up_s, up_o, *]; done) | ((try simp [mm_u_sr, sr_same, sr_sr, up_s, up_o, -Int32.not_lt, -Int32.not_le] at *) <;> simp [bi, mm_u_sr, sr_same, sr_sr, up_s, up_o, *, -Int32.not_lt, -Int32.not_le]; done) | (simp_all [bi, mm_u_sr, sr_same, sr_sr, up_s, up_o]; done)
      · first | rfl | (simp [bi, mm_u_sr, sr_same, sr_sr, up_s, up_o, *]; done) | ((try simp [mm_u_sr, sr_same, sr_sr, up_s, up_o, -Int32.not_lt, -Int32.not_le] at *) <;> simp [bi, mm_u_sr, sr_same, sr_sr, up_s, up_o, *, -Int32.not_lt, -Int32.not_le]; done) | (simp_all [bi, mm_u_sr, sr_same, sr_sr, up_s, up_o]; done)

set_option maxHeartbeats 1000000 in
theorem ok_X8_isTerm (d : Nat) (I : mI) (L : mL) (x : Int32) : mm_Call (d + 1) 103 [.int x] (mm_sh, mm_R, I, L) (some (.int (bi (0 ≤ x ∧ x < 4)))) (mm_sh, mm_R, I, L) := by
  refine mm_Call.of_go (d := d + 0) me_103 ⟨Nat.le_of_ble_eq_true rfl, rfl⟩ ?_
  show mm_Go mm_cs0 _ _ _ _ _ _ [some (.int _)] [] _ _ _
  refine go_iload_n dX8_isTerm_0 rfl ?_
  refine go_ifc (t := 13) dX8_isTerm_1 (by decide) c1_lt (fun h1 => ?_) (fun h1 => ?_)
  · have h1' := Int32.not_le.mpr h1
    refine go_pu (st' := .int (0) :: _) dX8_isTerm_13 rfl ?_
    refine go_zret dX8_isTerm_14 rfl (by first | exact Or.inl rfl | exact Or.inr rfl | assumption) ?_ ?_
    · first | rfl | (simp [bi, mm_u_sr, sr_same, sr_sr, up_s, up_o, *]; done) | ((try simp [mm_u_sr, sr_same, sr_sr, up_s, up_o, -Int32.not_lt, -Int32.not_le] at *) <;> simp [bi, mm_u_sr, sr_same, sr_sr, up_s, up_o, *, -Int32.not_lt, -Int32.not_le]; done) | (simp_all [bi, mm_u_sr, sr_same, sr_sr, up_s, up_o]; done)
    · first | rfl | (simp [bi, mm_u_sr, sr_same, sr_sr, up_s, up_o, *]; done) | ((try simp [mm_u_sr, sr_same, sr_sr, up_s, up_o, -Int32.not_lt, -Int32.not_le] at *) <;> simp [bi, mm_u_sr, sr_same, sr_sr, up_s, up_o, *, -Int32.not_lt, -Int32.not_le]; done) | (simp_all [bi, mm_u_sr, sr_same, sr_sr, up_s, up_o]; done)
  · have h1' := Int32.not_lt.mp h1
    refine go_iload_n dX8_isTerm_4 rfl ?_
    refine go_pu (st' := .int (4) :: _) dX8_isTerm_5 rfl ?_
    refine go_icc (t := 13) dX8_isTerm_6 (by decide) c2_ge (fun h2 => ?_) (fun h2 => ?_)
    · have h2' := Int32.not_lt.mpr h2
      refine go_pu (st' := .int (0) :: _) dX8_isTerm_13 rfl ?_
      refine go_zret dX8_isTerm_14 rfl (by first | exact Or.inl rfl | exact Or.inr rfl | assumption) ?_ ?_
      · first | rfl | (simp [bi, mm_u_sr, sr_same, sr_sr, up_s, up_o, *]; done) | ((try simp [mm_u_sr, sr_same, sr_sr, up_s, up_o, -Int32.not_lt, -Int32.not_le] at *) <;> simp [bi, mm_u_sr, sr_same, sr_sr, up_s, up_o, *, -Int32.not_lt, -Int32.not_le]; done) | (simp_all [bi, mm_u_sr, sr_same, sr_sr, up_s, up_o]; done)
      · first | rfl | (simp [bi, mm_u_sr, sr_same, sr_sr, up_s, up_o, *]; done) | ((try simp [mm_u_sr, sr_same, sr_sr, up_s, up_o, -Int32.not_lt, -Int32.not_le] at *) <;> simp [bi, mm_u_sr, sr_same, sr_sr, up_s, up_o, *, -Int32.not_lt, -Int32.not_le]; done) | (simp_all [bi, mm_u_sr, sr_same, sr_sr, up_s, up_o]; done)
    · have h2' := Int32.not_le.mp h2
      refine go_pu (st' := .int (1) :: _) dX8_isTerm_9 rfl ?_
      refine go_goto (t := 14) dX8_isTerm_10 (by decide) ?_
      refine go_zret dX8_isTerm_14 rfl (by first | exact Or.inl rfl | exact Or.inr rfl | assumption) ?_ ?_
      · first | rfl | (simp [bi, mm_u_sr, sr_same, sr_sr, up_s, up_o, *]; done) | ((try simp [mm_u_sr, sr_same, sr_sr, up_s, up_o, -Int32.not_lt, -Int32.not_le] at *) <;> simp [bi, mm_u_sr, sr_same, sr_sr, up_s, up_o, *, -Int32.not_lt, -Int32.not_le]; done) | (simp_all [bi, mm_u_sr, sr_same, sr_sr, up_s, up_o]; done)
      · first | rfl | (simp [bi, mm_u_sr, sr_same, sr_sr, up_s, up_o, *]; done) | ((try simp [mm_u_sr, sr_same, sr_sr, up_s, up_o, -Int32.not_lt, -Int32.not_le] at *) <;> simp [bi, mm_u_sr, sr_same, sr_sr, up_s, up_o, *, -Int32.not_lt, -Int32.not_le]; done) | (simp_all [bi, mm_u_sr, sr_same, sr_sr, up_s, up_o]; done)

set_option maxHeartbeats 1000000 in
theorem ok_X8_bit (d : Nat) (I : mI) (L : mL) (x : Int32) : mm_Call (d + 1) 105 [.int x] (mm_sh, mm_R, I, L) (some (.int (bi (¬ x = 0)))) (mm_sh, mm_R, I, L) := by
  refine mm_Call.of_go (d := d + 0) me_105 ⟨Nat.le_of_ble_eq_true rfl, rfl⟩ ?_
  show mm_Go mm_cs0 _ _ _ _ _ _ [some (.int _)] [] _ _ _
  refine go_iload_n dX8_bit_0 rfl ?_
  refine go_ifc (t := 8) dX8_bit_1 (by decide) c1_eq (fun h1 => ?_) (fun h1 => ?_)
  · refine go_pu (st' := .int (0) :: _) dX8_bit_8 rfl ?_
    refine go_iret dX8_bit_9 rfl ?_ ?_
    · first | rfl | (simp [bi, mm_u_sr, sr_same, sr_sr, up_s, up_o, *]; done) | ((try simp [mm_u_sr, sr_same, sr_sr, up_s, up_o, -Int32.not_lt, -Int32.not_le] at *) <;> simp [bi, mm_u_sr, sr_same, sr_sr, up_s, up_o, *, -Int32.not_lt, -Int32.not_le]; done) | (simp_all [bi, mm_u_sr, sr_same, sr_sr, up_s, up_o]; done)
    · first | rfl | (simp [bi, mm_u_sr, sr_same, sr_sr, up_s, up_o, *]; done) | ((try simp [mm_u_sr, sr_same, sr_sr, up_s, up_o, -Int32.not_lt, -Int32.not_le] at *) <;> simp [bi, mm_u_sr, sr_same, sr_sr, up_s, up_o, *, -Int32.not_lt, -Int32.not_le]; done) | (simp_all [bi, mm_u_sr, sr_same, sr_sr, up_s, up_o]; done)
  · refine go_pu (st' := .int (1) :: _) dX8_bit_4 rfl ?_
    refine go_goto (t := 9) dX8_bit_5 (by decide) ?_
    refine go_iret dX8_bit_9 rfl ?_ ?_
    · first | rfl | (simp [bi, mm_u_sr, sr_same, sr_sr, up_s, up_o, *]; done) | ((try simp [mm_u_sr, sr_same, sr_sr, up_s, up_o, -Int32.not_lt, -Int32.not_le] at *) <;> simp [bi, mm_u_sr, sr_same, sr_sr, up_s, up_o, *, -Int32.not_lt, -Int32.not_le]; done) | (simp_all [bi, mm_u_sr, sr_same, sr_sr, up_s, up_o]; done)
    · first | rfl | (simp [bi, mm_u_sr, sr_same, sr_sr, up_s, up_o, *]; done) | ((try simp [mm_u_sr, sr_same, sr_sr, up_s, up_o, -Int32.not_lt, -Int32.not_le] at *) <;> simp [bi, mm_u_sr, sr_same, sr_sr, up_s, up_o, *, -Int32.not_lt, -Int32.not_le]; done) | (simp_all [bi, mm_u_sr, sr_same, sr_sr, up_s, up_o]; done)

set_option maxHeartbeats 1000000 in
theorem ok_X1_hasChild (d : Nat) (I : mI) (L : mL) (f : Nat) (hf : mm_sh[f]? = some (1, 0)) (x : Int32) : mm_Call (d + 1) 3 [.ref f, .int x] (mm_sh, mm_R, I, L) (some (.int (bi (0 ≤ x ∧ x < I f 1)))) (mm_sh, mm_R, I, L) := by
  refine mm_Call.of_go (d := d + 0) me_3 ⟨Nat.le_of_ble_eq_true rfl, rfl⟩ ?_
  show mm_Go mm_cs0 _ _ _ _ _ _ [some (.ref _), some (.int _)] [] _ _ _
  refine go_iload_n dX1_hasChild_0 rfl ?_
  refine go_ifc (t := 16) dX1_hasChild_1 (by decide) c1_lt (fun h1 => ?_) (fun h1 => ?_)
  · have h1' := Int32.not_le.mpr h1
    refine go_pu (st' := .int (0) :: _) dX1_hasChild_16 rfl ?_
    refine go_zret dX1_hasChild_17 rfl (by first | exact Or.inl rfl | exact Or.inr rfl | assumption) ?_ ?_
    · first | rfl | (simp [bi, mm_u_sr, sr_same, sr_sr, up_s, up_o, *]; done) | ((try simp [mm_u_sr, sr_same, sr_sr, up_s, up_o, -Int32.not_lt, -Int32.not_le] at *) <;> simp [bi, mm_u_sr, sr_same, sr_sr, up_s, up_o, *, -Int32.not_lt, -Int32.not_le]; done) | (simp_all [bi, mm_u_sr, sr_same, sr_sr, up_s, up_o]; done)
    · first | rfl | (simp [bi, mm_u_sr, sr_same, sr_sr, up_s, up_o, *]; done) | ((try simp [mm_u_sr, sr_same, sr_sr, up_s, up_o, -Int32.not_lt, -Int32.not_le] at *) <;> simp [bi, mm_u_sr, sr_same, sr_sr, up_s, up_o, *, -Int32.not_lt, -Int32.not_le]; done) | (simp_all [bi, mm_u_sr, sr_same, sr_sr, up_s, up_o]; done)
  · have h1' := Int32.not_lt.mp h1
    refine go_iload_n dX1_hasChild_4 rfl ?_
    refine go_aload_n dX1_hasChild_5 rfl ?_
    refine go_gi dX1_hasChild_6 mf_1_33 (by decide) (by first | rfl | assumption | (simp only [*]; done)) ?_
    refine go_icc (t := 16) dX1_hasChild_9 (by decide) c2_ge (fun h2 => ?_) (fun h2 => ?_)
    · have h2' := Int32.not_lt.mpr h2
      refine go_pu (st' := .int (0) :: _) dX1_hasChild_16 rfl ?_
      refine go_zret dX1_hasChild_17 rfl (by first | exact Or.inl rfl | exact Or.inr rfl | assumption) ?_ ?_
      · first | rfl | (simp [bi, mm_u_sr, sr_same, sr_sr, up_s, up_o, *]; done) | ((try simp [mm_u_sr, sr_same, sr_sr, up_s, up_o, -Int32.not_lt, -Int32.not_le] at *) <;> simp [bi, mm_u_sr, sr_same, sr_sr, up_s, up_o, *, -Int32.not_lt, -Int32.not_le]; done) | (simp_all [bi, mm_u_sr, sr_same, sr_sr, up_s, up_o]; done)
      · first | rfl | (simp [bi, mm_u_sr, sr_same, sr_sr, up_s, up_o, *]; done) | ((try simp [mm_u_sr, sr_same, sr_sr, up_s, up_o, -Int32.not_lt, -Int32.not_le] at *) <;> simp [bi, mm_u_sr, sr_same, sr_sr, up_s, up_o, *, -Int32.not_lt, -Int32.not_le]; done) | (simp_all [bi, mm_u_sr, sr_same, sr_sr, up_s, up_o]; done)
    · have h2' := Int32.not_le.mp h2
      refine go_pu (st' := .int (1) :: _) dX1_hasChild_12 rfl ?_
      refine go_goto (t := 17) dX1_hasChild_13 (by decide) ?_
      refine go_zret dX1_hasChild_17 rfl (by first | exact Or.inl rfl | exact Or.inr rfl | assumption) ?_ ?_
      · first | rfl | (simp [bi, mm_u_sr, sr_same, sr_sr, up_s, up_o, *]; done) | ((try simp [mm_u_sr, sr_same, sr_sr, up_s, up_o, -Int32.not_lt, -Int32.not_le] at *) <;> simp [bi, mm_u_sr, sr_same, sr_sr, up_s, up_o, *, -Int32.not_lt, -Int32.not_le]; done) | (simp_all [bi, mm_u_sr, sr_same, sr_sr, up_s, up_o]; done)
      · first | rfl | (simp [bi, mm_u_sr, sr_same, sr_sr, up_s, up_o, *]; done) | ((try simp [mm_u_sr, sr_same, sr_sr, up_s, up_o, -Int32.not_lt, -Int32.not_le] at *) <;> simp [bi, mm_u_sr, sr_same, sr_sr, up_s, up_o, *, -Int32.not_lt, -Int32.not_le]; done) | (simp_all [bi, mm_u_sr, sr_same, sr_sr, up_s, up_o]; done)

set_option maxHeartbeats 1000000 in
theorem ok_X1_hasSack (d : Nat) (I : mI) (L : mL) (f : Nat) (hf : mm_sh[f]? = some (1, 0)) (x : Int32) : mm_Call (d + 1) 4 [.ref f, .int x] (mm_sh, mm_R, I, L) (some (.int (bi (0 ≤ x ∧ x < I f 3)))) (mm_sh, mm_R, I, L) := by
  refine mm_Call.of_go (d := d + 0) me_4 ⟨Nat.le_of_ble_eq_true rfl, rfl⟩ ?_
  show mm_Go mm_cs0 _ _ _ _ _ _ [some (.ref _), some (.int _)] [] _ _ _
  refine go_iload_n dX1_hasSack_0 rfl ?_
  refine go_ifc (t := 16) dX1_hasSack_1 (by decide) c1_lt (fun h1 => ?_) (fun h1 => ?_)
  · have h1' := Int32.not_le.mpr h1
    refine go_pu (st' := .int (0) :: _) dX1_hasSack_16 rfl ?_
    refine go_zret dX1_hasSack_17 rfl (by first | exact Or.inl rfl | exact Or.inr rfl | assumption) ?_ ?_
    · first | rfl | (simp [bi, mm_u_sr, sr_same, sr_sr, up_s, up_o, *]; done) | ((try simp [mm_u_sr, sr_same, sr_sr, up_s, up_o, -Int32.not_lt, -Int32.not_le] at *) <;> simp [bi, mm_u_sr, sr_same, sr_sr, up_s, up_o, *, -Int32.not_lt, -Int32.not_le]; done) | (simp_all [bi, mm_u_sr, sr_same, sr_sr, up_s, up_o]; done)
    · first | rfl | (simp [bi, mm_u_sr, sr_same, sr_sr, up_s, up_o, *]; done) | ((try simp [mm_u_sr, sr_same, sr_sr, up_s, up_o, -Int32.not_lt, -Int32.not_le] at *) <;> simp [bi, mm_u_sr, sr_same, sr_sr, up_s, up_o, *, -Int32.not_lt, -Int32.not_le]; done) | (simp_all [bi, mm_u_sr, sr_same, sr_sr, up_s, up_o]; done)
  · have h1' := Int32.not_lt.mp h1
    refine go_iload_n dX1_hasSack_4 rfl ?_
    refine go_aload_n dX1_hasSack_5 rfl ?_
    refine go_gi dX1_hasSack_6 mf_1_36 (by decide) (by first | rfl | assumption | (simp only [*]; done)) ?_
    refine go_icc (t := 16) dX1_hasSack_9 (by decide) c2_ge (fun h2 => ?_) (fun h2 => ?_)
    · have h2' := Int32.not_lt.mpr h2
      refine go_pu (st' := .int (0) :: _) dX1_hasSack_16 rfl ?_
      refine go_zret dX1_hasSack_17 rfl (by first | exact Or.inl rfl | exact Or.inr rfl | assumption) ?_ ?_
      · first | rfl | (simp [bi, mm_u_sr, sr_same, sr_sr, up_s, up_o, *]; done) | ((try simp [mm_u_sr, sr_same, sr_sr, up_s, up_o, -Int32.not_lt, -Int32.not_le] at *) <;> simp [bi, mm_u_sr, sr_same, sr_sr, up_s, up_o, *, -Int32.not_lt, -Int32.not_le]; done) | (simp_all [bi, mm_u_sr, sr_same, sr_sr, up_s, up_o]; done)
      · first | rfl | (simp [bi, mm_u_sr, sr_same, sr_sr, up_s, up_o, *]; done) | ((try simp [mm_u_sr, sr_same, sr_sr, up_s, up_o, -Int32.not_lt, -Int32.not_le] at *) <;> simp [bi, mm_u_sr, sr_same, sr_sr, up_s, up_o, *, -Int32.not_lt, -Int32.not_le]; done) | (simp_all [bi, mm_u_sr, sr_same, sr_sr, up_s, up_o]; done)
    · have h2' := Int32.not_le.mp h2
      refine go_pu (st' := .int (1) :: _) dX1_hasSack_12 rfl ?_
      refine go_goto (t := 17) dX1_hasSack_13 (by decide) ?_
      refine go_zret dX1_hasSack_17 rfl (by first | exact Or.inl rfl | exact Or.inr rfl | assumption) ?_ ?_
      · first | rfl | (simp [bi, mm_u_sr, sr_same, sr_sr, up_s, up_o, *]; done) | ((try simp [mm_u_sr, sr_same, sr_sr, up_s, up_o, -Int32.not_lt, -Int32.not_le] at *) <;> simp [bi, mm_u_sr, sr_same, sr_sr, up_s, up_o, *, -Int32.not_lt, -Int32.not_le]; done) | (simp_all [bi, mm_u_sr, sr_same, sr_sr, up_s, up_o]; done)
      · first | rfl | (simp [bi, mm_u_sr, sr_same, sr_sr, up_s, up_o, *]; done) | ((try simp [mm_u_sr, sr_same, sr_sr, up_s, up_o, -Int32.not_lt, -Int32.not_le] at *) <;> simp [bi, mm_u_sr, sr_same, sr_sr, up_s, up_o, *, -Int32.not_lt, -Int32.not_le]; done) | (simp_all [bi, mm_u_sr, sr_same, sr_sr, up_s, up_o]; done)

set_option maxHeartbeats 1000000 in
theorem ok_X7_hasRow (d : Nat) (I : mI) (L : mL) (s : Nat) (hs : mm_sh[s]? = some (7, 0)) : mm_Call (d + 1) 49 [.ref s] (mm_sh, mm_R, I, L) (some (.int (bi (100 ≤ I s 0)))) (mm_sh, mm_R, I, L) := by
  refine mm_Call.of_go (d := d + 0) me_49 ⟨Nat.le_of_ble_eq_true rfl, rfl⟩ ?_
  show mm_Go mm_cs0 _ _ _ _ _ _ [some (.ref _)] [] _ _ _
  refine go_aload_n dX7_hasRow_0 rfl ?_
  refine go_gi dX7_hasRow_1 mf_7_9 (by decide) (by first | rfl | assumption | (simp only [*]; done)) ?_
  refine go_pu (st' := .int (100) :: _) dX7_hasRow_4 rfl ?_
  refine go_icc (t := 13) dX7_hasRow_6 (by decide) c2_lt (fun h1 => ?_) (fun h1 => ?_)
  · have h1' := Int32.not_le.mpr h1
    refine go_pu (st' := .int (0) :: _) dX7_hasRow_13 rfl ?_
    refine go_zret dX7_hasRow_14 rfl (by first | exact Or.inl rfl | exact Or.inr rfl | assumption) ?_ ?_
    · first | rfl | (simp [bi, mm_u_sr, sr_same, sr_sr, up_s, up_o, *]; done) | ((try simp [mm_u_sr, sr_same, sr_sr, up_s, up_o, -Int32.not_lt, -Int32.not_le] at *) <;> simp [bi, mm_u_sr, sr_same, sr_sr, up_s, up_o, *, -Int32.not_lt, -Int32.not_le]; done) | (simp_all [bi, mm_u_sr, sr_same, sr_sr, up_s, up_o]; done)
    · first | rfl | (simp [bi, mm_u_sr, sr_same, sr_sr, up_s, up_o, *]; done) | ((try simp [mm_u_sr, sr_same, sr_sr, up_s, up_o, -Int32.not_lt, -Int32.not_le] at *) <;> simp [bi, mm_u_sr, sr_same, sr_sr, up_s, up_o, *, -Int32.not_lt, -Int32.not_le]; done) | (simp_all [bi, mm_u_sr, sr_same, sr_sr, up_s, up_o]; done)
  · have h1' := Int32.not_lt.mp h1
    refine go_pu (st' := .int (1) :: _) dX7_hasRow_9 rfl ?_
    refine go_goto (t := 14) dX7_hasRow_10 (by decide) ?_
    refine go_zret dX7_hasRow_14 rfl (by first | exact Or.inl rfl | exact Or.inr rfl | assumption) ?_ ?_
    · first | rfl | (simp [bi, mm_u_sr, sr_same, sr_sr, up_s, up_o, *]; done) | ((try simp [mm_u_sr, sr_same, sr_sr, up_s, up_o, -Int32.not_lt, -Int32.not_le] at *) <;> simp [bi, mm_u_sr, sr_same, sr_sr, up_s, up_o, *, -Int32.not_lt, -Int32.not_le]; done) | (simp_all [bi, mm_u_sr, sr_same, sr_sr, up_s, up_o]; done)
    · first | rfl | (simp [bi, mm_u_sr, sr_same, sr_sr, up_s, up_o, *]; done) | ((try simp [mm_u_sr, sr_same, sr_sr, up_s, up_o, -Int32.not_lt, -Int32.not_le] at *) <;> simp [bi, mm_u_sr, sr_same, sr_sr, up_s, up_o, *, -Int32.not_lt, -Int32.not_le]; done) | (simp_all [bi, mm_u_sr, sr_same, sr_sr, up_s, up_o]; done)

set_option maxHeartbeats 1000000 in
theorem ok_X7_hasChild (d : Nat) (I : mI) (L : mL) (s : Nat) (hs : mm_sh[s]? = some (7, 0)) : mm_Call (d + 1) 50 [.ref s] (mm_sh, mm_R, I, L) (some (.int (bi (0 ≤ I s 0 ∧ I s 0 < 100)))) (mm_sh, mm_R, I, L) := by
  refine mm_Call.of_go (d := d + 0) me_50 ⟨Nat.le_of_ble_eq_true rfl, rfl⟩ ?_
  show mm_Go mm_cs0 _ _ _ _ _ _ [some (.ref _)] [] _ _ _
  refine go_aload_n dX7_hasChild_0 rfl ?_
  refine go_gi dX7_hasChild_1 mf_7_9 (by decide) (by first | rfl | assumption | (simp only [*]; done)) ?_
  refine go_ifc (t := 20) dX7_hasChild_4 (by decide) c1_lt (fun h1 => ?_) (fun h1 => ?_)
  · have h1' := Int32.not_le.mpr h1
    refine go_pu (st' := .int (0) :: _) dX7_hasChild_20 rfl ?_
    refine go_zret dX7_hasChild_21 rfl (by first | exact Or.inl rfl | exact Or.inr rfl | assumption) ?_ ?_
    · first | rfl | (simp [bi, mm_u_sr, sr_same, sr_sr, up_s, up_o, *]; done) | ((try simp [mm_u_sr, sr_same, sr_sr, up_s, up_o, -Int32.not_lt, -Int32.not_le] at *) <;> simp [bi, mm_u_sr, sr_same, sr_sr, up_s, up_o, *, -Int32.not_lt, -Int32.not_le]; done) | (simp_all [bi, mm_u_sr, sr_same, sr_sr, up_s, up_o]; done)
    · first | rfl | (simp [bi, mm_u_sr, sr_same, sr_sr, up_s, up_o, *]; done) | ((try simp [mm_u_sr, sr_same, sr_sr, up_s, up_o, -Int32.not_lt, -Int32.not_le] at *) <;> simp [bi, mm_u_sr, sr_same, sr_sr, up_s, up_o, *, -Int32.not_lt, -Int32.not_le]; done) | (simp_all [bi, mm_u_sr, sr_same, sr_sr, up_s, up_o]; done)
  · have h1' := Int32.not_lt.mp h1
    refine go_aload_n dX7_hasChild_7 rfl ?_
    refine go_gi dX7_hasChild_8 mf_7_9 (by decide) (by first | rfl | assumption | (simp only [*]; done)) ?_
    refine go_pu (st' := .int (100) :: _) dX7_hasChild_11 rfl ?_
    refine go_icc (t := 20) dX7_hasChild_13 (by decide) c2_ge (fun h2 => ?_) (fun h2 => ?_)
    · have h2' := Int32.not_lt.mpr h2
      refine go_pu (st' := .int (0) :: _) dX7_hasChild_20 rfl ?_
      refine go_zret dX7_hasChild_21 rfl (by first | exact Or.inl rfl | exact Or.inr rfl | assumption) ?_ ?_
      · first | rfl | (simp [bi, mm_u_sr, sr_same, sr_sr, up_s, up_o, *]; done) | ((try simp [mm_u_sr, sr_same, sr_sr, up_s, up_o, -Int32.not_lt, -Int32.not_le] at *) <;> simp [bi, mm_u_sr, sr_same, sr_sr, up_s, up_o, *, -Int32.not_lt, -Int32.not_le]; done) | (simp_all [bi, mm_u_sr, sr_same, sr_sr, up_s, up_o]; done)
      · first | rfl | (simp [bi, mm_u_sr, sr_same, sr_sr, up_s, up_o, *]; done) | ((try simp [mm_u_sr, sr_same, sr_sr, up_s, up_o, -Int32.not_lt, -Int32.not_le] at *) <;> simp [bi, mm_u_sr, sr_same, sr_sr, up_s, up_o, *, -Int32.not_lt, -Int32.not_le]; done) | (simp_all [bi, mm_u_sr, sr_same, sr_sr, up_s, up_o]; done)
    · have h2' := Int32.not_le.mp h2
      refine go_pu (st' := .int (1) :: _) dX7_hasChild_16 rfl ?_
      refine go_goto (t := 21) dX7_hasChild_17 (by decide) ?_
      refine go_zret dX7_hasChild_21 rfl (by first | exact Or.inl rfl | exact Or.inr rfl | assumption) ?_ ?_
      · first | rfl | (simp [bi, mm_u_sr, sr_same, sr_sr, up_s, up_o, *]; done) | ((try simp [mm_u_sr, sr_same, sr_sr, up_s, up_o, -Int32.not_lt, -Int32.not_le] at *) <;> simp [bi, mm_u_sr, sr_same, sr_sr, up_s, up_o, *, -Int32.not_lt, -Int32.not_le]; done) | (simp_all [bi, mm_u_sr, sr_same, sr_sr, up_s, up_o]; done)
      · first | rfl | (simp [bi, mm_u_sr, sr_same, sr_sr, up_s, up_o, *]; done) | ((try simp [mm_u_sr, sr_same, sr_sr, up_s, up_o, -Int32.not_lt, -Int32.not_le] at *) <;> simp [bi, mm_u_sr, sr_same, sr_sr, up_s, up_o, *, -Int32.not_lt, -Int32.not_le]; done) | (simp_all [bi, mm_u_sr, sr_same, sr_sr, up_s, up_o]; done)

set_option maxHeartbeats 1000000 in
theorem ok_X7_has (d : Nat) (I : mI) (L : mL) (s : Nat) (hs : mm_sh[s]? = some (7, 0)) (x : Int32) : mm_Call (d + 1) 51 [.ref s, .int x] (mm_sh, mm_R, I, L) (some (.int (bi (0 ≤ x ∧ x < I s 1)))) (mm_sh, mm_R, I, L) := by
  refine mm_Call.of_go (d := d + 0) me_51 ⟨Nat.le_of_ble_eq_true rfl, rfl⟩ ?_
  show mm_Go mm_cs0 _ _ _ _ _ _ [some (.ref _), some (.int _)] [] _ _ _
  refine go_iload_n dX7_has_0 rfl ?_
  refine go_ifc (t := 16) dX7_has_1 (by decide) c1_lt (fun h1 => ?_) (fun h1 => ?_)
  · have h1' := Int32.not_le.mpr h1
    refine go_pu (st' := .int (0) :: _) dX7_has_16 rfl ?_
    refine go_zret dX7_has_17 rfl (by first | exact Or.inl rfl | exact Or.inr rfl | assumption) ?_ ?_
    · first | rfl | (simp [bi, mm_u_sr, sr_same, sr_sr, up_s, up_o, *]; done) | ((try simp [mm_u_sr, sr_same, sr_sr, up_s, up_o, -Int32.not_lt, -Int32.not_le] at *) <;> simp [bi, mm_u_sr, sr_same, sr_sr, up_s, up_o, *, -Int32.not_lt, -Int32.not_le]; done) | (simp_all [bi, mm_u_sr, sr_same, sr_sr, up_s, up_o]; done)
    · first | rfl | (simp [bi, mm_u_sr, sr_same, sr_sr, up_s, up_o, *]; done) | ((try simp [mm_u_sr, sr_same, sr_sr, up_s, up_o, -Int32.not_lt, -Int32.not_le] at *) <;> simp [bi, mm_u_sr, sr_same, sr_sr, up_s, up_o, *, -Int32.not_lt, -Int32.not_le]; done) | (simp_all [bi, mm_u_sr, sr_same, sr_sr, up_s, up_o]; done)
  · have h1' := Int32.not_lt.mp h1
    refine go_iload_n dX7_has_4 rfl ?_
    refine go_aload_n dX7_has_5 rfl ?_
    refine go_gi dX7_has_6 mf_7_19 (by decide) (by first | rfl | assumption | (simp only [*]; done)) ?_
    refine go_icc (t := 16) dX7_has_9 (by decide) c2_ge (fun h2 => ?_) (fun h2 => ?_)
    · have h2' := Int32.not_lt.mpr h2
      refine go_pu (st' := .int (0) :: _) dX7_has_16 rfl ?_
      refine go_zret dX7_has_17 rfl (by first | exact Or.inl rfl | exact Or.inr rfl | assumption) ?_ ?_
      · first | rfl | (simp [bi, mm_u_sr, sr_same, sr_sr, up_s, up_o, *]; done) | ((try simp [mm_u_sr, sr_same, sr_sr, up_s, up_o, -Int32.not_lt, -Int32.not_le] at *) <;> simp [bi, mm_u_sr, sr_same, sr_sr, up_s, up_o, *, -Int32.not_lt, -Int32.not_le]; done) | (simp_all [bi, mm_u_sr, sr_same, sr_sr, up_s, up_o]; done)
      · first | rfl | (simp [bi, mm_u_sr, sr_same, sr_sr, up_s, up_o, *]; done) | ((try simp [mm_u_sr, sr_same, sr_sr, up_s, up_o, -Int32.not_lt, -Int32.not_le] at *) <;> simp [bi, mm_u_sr, sr_same, sr_sr, up_s, up_o, *, -Int32.not_lt, -Int32.not_le]; done) | (simp_all [bi, mm_u_sr, sr_same, sr_sr, up_s, up_o]; done)
    · have h2' := Int32.not_le.mp h2
      refine go_pu (st' := .int (1) :: _) dX7_has_12 rfl ?_
      refine go_goto (t := 17) dX7_has_13 (by decide) ?_
      refine go_zret dX7_has_17 rfl (by first | exact Or.inl rfl | exact Or.inr rfl | assumption) ?_ ?_
      · first | rfl | (simp [bi, mm_u_sr, sr_same, sr_sr, up_s, up_o, *]; done) | ((try simp [mm_u_sr, sr_same, sr_sr, up_s, up_o, -Int32.not_lt, -Int32.not_le] at *) <;> simp [bi, mm_u_sr, sr_same, sr_sr, up_s, up_o, *, -Int32.not_lt, -Int32.not_le]; done) | (simp_all [bi, mm_u_sr, sr_same, sr_sr, up_s, up_o]; done)
      · first | rfl | (simp [bi, mm_u_sr, sr_same, sr_sr, up_s, up_o, *]; done) | ((try simp [mm_u_sr, sr_same, sr_sr, up_s, up_o, -Int32.not_lt, -Int32.not_le] at *) <;> simp [bi, mm_u_sr, sr_same, sr_sr, up_s, up_o, *, -Int32.not_lt, -Int32.not_le]; done) | (simp_all [bi, mm_u_sr, sr_same, sr_sr, up_s, up_o]; done)

set_option maxHeartbeats 1000000 in
theorem ok_X7_hasPart (d : Nat) (I : mI) (L : mL) (s : Nat) (hs : mm_sh[s]? = some (7, 0)) (x n : Int32) : mm_Call (d + 1) 52 [.ref s, .int x, .int n] (mm_sh, mm_R, I, L) (some (.int (bi (0 ≤ x ∧ 0 ≤ n ∧ x ≤ I s 1 - n)))) (mm_sh, mm_R, I, L) := by
  refine mm_Call.of_go (d := d + 0) me_52 ⟨Nat.le_of_ble_eq_true rfl, rfl⟩ ?_
  show mm_Go mm_cs0 _ _ _ _ _ _ [some (.ref _), some (.int _), some (.int _)] [] _ _ _
  refine go_iload_n dX7_hasPart_0 rfl ?_
  refine go_ifc (t := 22) dX7_hasPart_1 (by decide) c1_lt (fun h1 => ?_) (fun h1 => ?_)
  · have h1' := Int32.not_le.mpr h1
    refine go_pu (st' := .int (0) :: _) dX7_hasPart_22 rfl ?_
    refine go_zret dX7_hasPart_23 rfl (by first | exact Or.inl rfl | exact Or.inr rfl | assumption) ?_ ?_
    · first | rfl | (simp [bi, mm_u_sr, sr_same, sr_sr, up_s, up_o, *]; done) | ((try simp [mm_u_sr, sr_same, sr_sr, up_s, up_o, -Int32.not_lt, -Int32.not_le] at *) <;> simp [bi, mm_u_sr, sr_same, sr_sr, up_s, up_o, *, -Int32.not_lt, -Int32.not_le]; done) | (simp_all [bi, mm_u_sr, sr_same, sr_sr, up_s, up_o]; done)
    · first | rfl | (simp [bi, mm_u_sr, sr_same, sr_sr, up_s, up_o, *]; done) | ((try simp [mm_u_sr, sr_same, sr_sr, up_s, up_o, -Int32.not_lt, -Int32.not_le] at *) <;> simp [bi, mm_u_sr, sr_same, sr_sr, up_s, up_o, *, -Int32.not_lt, -Int32.not_le]; done) | (simp_all [bi, mm_u_sr, sr_same, sr_sr, up_s, up_o]; done)
  · have h1' := Int32.not_lt.mp h1
    refine go_iload_n dX7_hasPart_4 rfl ?_
    refine go_ifc (t := 22) dX7_hasPart_5 (by decide) c1_lt (fun h2 => ?_) (fun h2 => ?_)
    · have h2' := Int32.not_le.mpr h2
      refine go_pu (st' := .int (0) :: _) dX7_hasPart_22 rfl ?_
      refine go_zret dX7_hasPart_23 rfl (by first | exact Or.inl rfl | exact Or.inr rfl | assumption) ?_ ?_
      · first | rfl | (simp [bi, mm_u_sr, sr_same, sr_sr, up_s, up_o, *]; done) | ((try simp [mm_u_sr, sr_same, sr_sr, up_s, up_o, -Int32.not_lt, -Int32.not_le] at *) <;> simp [bi, mm_u_sr, sr_same, sr_sr, up_s, up_o, *, -Int32.not_lt, -Int32.not_le]; done) | (simp_all [bi, mm_u_sr, sr_same, sr_sr, up_s, up_o]; done)
      · first | rfl | (simp [bi, mm_u_sr, sr_same, sr_sr, up_s, up_o, *]; done) | ((try simp [mm_u_sr, sr_same, sr_sr, up_s, up_o, -Int32.not_lt, -Int32.not_le] at *) <;> simp [bi, mm_u_sr, sr_same, sr_sr, up_s, up_o, *, -Int32.not_lt, -Int32.not_le]; done) | (simp_all [bi, mm_u_sr, sr_same, sr_sr, up_s, up_o]; done)
    · have h2' := Int32.not_lt.mp h2
      refine go_iload_n dX7_hasPart_8 rfl ?_
      refine go_aload_n dX7_hasPart_9 rfl ?_
      refine go_gi dX7_hasPart_10 mf_7_19 (by decide) (by first | rfl | assumption | (simp only [*]; done)) ?_
      refine go_iload_n dX7_hasPart_13 rfl ?_
      refine go_pu (st' := .int _ :: _) dX7_hasPart_14 rfl ?_
      refine go_icc (t := 22) dX7_hasPart_15 (by decide) c2_gt (fun h3 => ?_) (fun h3 => ?_)
      · have h3' := Int32.not_le.mpr h3
        refine go_pu (st' := .int (0) :: _) dX7_hasPart_22 rfl ?_
        refine go_zret dX7_hasPart_23 rfl (by first | exact Or.inl rfl | exact Or.inr rfl | assumption) ?_ ?_
        · first | rfl | (simp [bi, mm_u_sr, sr_same, sr_sr, up_s, up_o, *]; done) | ((try simp [mm_u_sr, sr_same, sr_sr, up_s, up_o, -Int32.not_lt, -Int32.not_le] at *) <;> simp [bi, mm_u_sr, sr_same, sr_sr, up_s, up_o, *, -Int32.not_lt, -Int32.not_le]; done) | (simp_all [bi, mm_u_sr, sr_same, sr_sr, up_s, up_o]; done)
        · first | rfl | (simp [bi, mm_u_sr, sr_same, sr_sr, up_s, up_o, *]; done) | ((try simp [mm_u_sr, sr_same, sr_sr, up_s, up_o, -Int32.not_lt, -Int32.not_le] at *) <;> simp [bi, mm_u_sr, sr_same, sr_sr, up_s, up_o, *, -Int32.not_lt, -Int32.not_le]; done) | (simp_all [bi, mm_u_sr, sr_same, sr_sr, up_s, up_o]; done)
      · have h3' := Int32.not_lt.mp h3
        refine go_pu (st' := .int (1) :: _) dX7_hasPart_18 rfl ?_
        refine go_goto (t := 23) dX7_hasPart_19 (by decide) ?_
        refine go_zret dX7_hasPart_23 rfl (by first | exact Or.inl rfl | exact Or.inr rfl | assumption) ?_ ?_
        · first | rfl | (simp [bi, mm_u_sr, sr_same, sr_sr, up_s, up_o, *]; done) | ((try simp [mm_u_sr, sr_same, sr_sr, up_s, up_o, -Int32.not_lt, -Int32.not_le] at *) <;> simp [bi, mm_u_sr, sr_same, sr_sr, up_s, up_o, *, -Int32.not_lt, -Int32.not_le]; done) | (simp_all [bi, mm_u_sr, sr_same, sr_sr, up_s, up_o]; done)
        · first | rfl | (simp [bi, mm_u_sr, sr_same, sr_sr, up_s, up_o, *]; done) | ((try simp [mm_u_sr, sr_same, sr_sr, up_s, up_o, -Int32.not_lt, -Int32.not_le] at *) <;> simp [bi, mm_u_sr, sr_same, sr_sr, up_s, up_o, *, -Int32.not_lt, -Int32.not_le]; done) | (simp_all [bi, mm_u_sr, sr_same, sr_sr, up_s, up_o]; done)

set_option maxHeartbeats 1000000 in
theorem ok_X9_isShelf (d : Nat) (I : mI) (L : mL) (x : Int32) : mm_Call (d + 1) 129 [.ref 108, .int x] (mm_sh, mm_R, I, L) (some (.int (bi (0 ≤ x ∧ x < 8)))) (mm_sh, mm_R, I, L) := by
  refine mm_Call.of_go (d := d + 0) me_129 ⟨Nat.le_of_ble_eq_true rfl, rfl⟩ ?_
  show mm_Go mm_cs0 _ _ _ _ _ _ [some (.ref _), some (.int _)] [] _ _ _
  refine go_iload_n dX9_isShelf_0 rfl ?_
  refine go_ifc (t := 14) dX9_isShelf_1 (by decide) c1_lt (fun h1 => ?_) (fun h1 => ?_)
  · have h1' := Int32.not_le.mpr h1
    refine go_pu (st' := .int (0) :: _) dX9_isShelf_14 rfl ?_
    refine go_zret dX9_isShelf_15 rfl (by first | exact Or.inl rfl | exact Or.inr rfl | assumption) ?_ ?_
    · first | rfl | (simp [bi, mm_u_sr, sr_same, sr_sr, up_s, up_o, *]; done) | ((try simp [mm_u_sr, sr_same, sr_sr, up_s, up_o, -Int32.not_lt, -Int32.not_le] at *) <;> simp [bi, mm_u_sr, sr_same, sr_sr, up_s, up_o, *, -Int32.not_lt, -Int32.not_le]; done) | (simp_all [bi, mm_u_sr, sr_same, sr_sr, up_s, up_o]; done)
    · first | rfl | (simp [bi, mm_u_sr, sr_same, sr_sr, up_s, up_o, *]; done) | ((try simp [mm_u_sr, sr_same, sr_sr, up_s, up_o, -Int32.not_lt, -Int32.not_le] at *) <;> simp [bi, mm_u_sr, sr_same, sr_sr, up_s, up_o, *, -Int32.not_lt, -Int32.not_le]; done) | (simp_all [bi, mm_u_sr, sr_same, sr_sr, up_s, up_o]; done)
  · have h1' := Int32.not_lt.mp h1
    refine go_iload_n dX9_isShelf_4 rfl ?_
    refine go_pu (st' := .int (8) :: _) dX9_isShelf_5 rfl ?_
    refine go_icc (t := 14) dX9_isShelf_7 (by decide) c2_ge (fun h2 => ?_) (fun h2 => ?_)
    · have h2' := Int32.not_lt.mpr h2
      refine go_pu (st' := .int (0) :: _) dX9_isShelf_14 rfl ?_
      refine go_zret dX9_isShelf_15 rfl (by first | exact Or.inl rfl | exact Or.inr rfl | assumption) ?_ ?_
      · first | rfl | (simp [bi, mm_u_sr, sr_same, sr_sr, up_s, up_o, *]; done) | ((try simp [mm_u_sr, sr_same, sr_sr, up_s, up_o, -Int32.not_lt, -Int32.not_le] at *) <;> simp [bi, mm_u_sr, sr_same, sr_sr, up_s, up_o, *, -Int32.not_lt, -Int32.not_le]; done) | (simp_all [bi, mm_u_sr, sr_same, sr_sr, up_s, up_o]; done)
      · first | rfl | (simp [bi, mm_u_sr, sr_same, sr_sr, up_s, up_o, *]; done) | ((try simp [mm_u_sr, sr_same, sr_sr, up_s, up_o, -Int32.not_lt, -Int32.not_le] at *) <;> simp [bi, mm_u_sr, sr_same, sr_sr, up_s, up_o, *, -Int32.not_lt, -Int32.not_le]; done) | (simp_all [bi, mm_u_sr, sr_same, sr_sr, up_s, up_o]; done)
    · have h2' := Int32.not_le.mp h2
      refine go_pu (st' := .int (1) :: _) dX9_isShelf_10 rfl ?_
      refine go_goto (t := 15) dX9_isShelf_11 (by decide) ?_
      refine go_zret dX9_isShelf_15 rfl (by first | exact Or.inl rfl | exact Or.inr rfl | assumption) ?_ ?_
      · first | rfl | (simp [bi, mm_u_sr, sr_same, sr_sr, up_s, up_o, *]; done) | ((try simp [mm_u_sr, sr_same, sr_sr, up_s, up_o, -Int32.not_lt, -Int32.not_le] at *) <;> simp [bi, mm_u_sr, sr_same, sr_sr, up_s, up_o, *, -Int32.not_lt, -Int32.not_le]; done) | (simp_all [bi, mm_u_sr, sr_same, sr_sr, up_s, up_o]; done)
      · first | rfl | (simp [bi, mm_u_sr, sr_same, sr_sr, up_s, up_o, *]; done) | ((try simp [mm_u_sr, sr_same, sr_sr, up_s, up_o, -Int32.not_lt, -Int32.not_le] at *) <;> simp [bi, mm_u_sr, sr_same, sr_sr, up_s, up_o, *, -Int32.not_lt, -Int32.not_le]; done) | (simp_all [bi, mm_u_sr, sr_same, sr_sr, up_s, up_o]; done)

set_option maxHeartbeats 1000000 in
theorem ok_X9_isChild (d : Nat) (I : mI) (L : mL) (x : Int32) : mm_Call (d + 1) 130 [.ref 108, .int x] (mm_sh, mm_R, I, L) (some (.int (bi (0 ≤ x ∧ x < I 108 0)))) (mm_sh, mm_R, I, L) := by
  refine mm_Call.of_go (d := d + 0) me_130 ⟨Nat.le_of_ble_eq_true rfl, rfl⟩ ?_
  show mm_Go mm_cs0 _ _ _ _ _ _ [some (.ref _), some (.int _)] [] _ _ _
  refine go_iload_n dX9_isChild_0 rfl ?_
  refine go_ifc (t := 16) dX9_isChild_1 (by decide) c1_lt (fun h1 => ?_) (fun h1 => ?_)
  · have h1' := Int32.not_le.mpr h1
    refine go_pu (st' := .int (0) :: _) dX9_isChild_16 rfl ?_
    refine go_zret dX9_isChild_17 rfl (by first | exact Or.inl rfl | exact Or.inr rfl | assumption) ?_ ?_
    · first | rfl | (simp [bi, mm_u_sr, sr_same, sr_sr, up_s, up_o, *]; done) | ((try simp [mm_u_sr, sr_same, sr_sr, up_s, up_o, -Int32.not_lt, -Int32.not_le] at *) <;> simp [bi, mm_u_sr, sr_same, sr_sr, up_s, up_o, *, -Int32.not_lt, -Int32.not_le]; done) | (simp_all [bi, mm_u_sr, sr_same, sr_sr, up_s, up_o]; done)
    · first | rfl | (simp [bi, mm_u_sr, sr_same, sr_sr, up_s, up_o, *]; done) | ((try simp [mm_u_sr, sr_same, sr_sr, up_s, up_o, -Int32.not_lt, -Int32.not_le] at *) <;> simp [bi, mm_u_sr, sr_same, sr_sr, up_s, up_o, *, -Int32.not_lt, -Int32.not_le]; done) | (simp_all [bi, mm_u_sr, sr_same, sr_sr, up_s, up_o]; done)
  · have h1' := Int32.not_lt.mp h1
    refine go_iload_n dX9_isChild_4 rfl ?_
    refine go_aload_n dX9_isChild_5 rfl ?_
    refine go_gi dX9_isChild_6 mf_9_117 (by decide) (by first | rfl | assumption | (simp only [*]; done)) ?_
    refine go_icc (t := 16) dX9_isChild_9 (by decide) c2_ge (fun h2 => ?_) (fun h2 => ?_)
    · have h2' := Int32.not_lt.mpr h2
      refine go_pu (st' := .int (0) :: _) dX9_isChild_16 rfl ?_
      refine go_zret dX9_isChild_17 rfl (by first | exact Or.inl rfl | exact Or.inr rfl | assumption) ?_ ?_
      · first | rfl | (simp [bi, mm_u_sr, sr_same, sr_sr, up_s, up_o, *]; done) | ((try simp [mm_u_sr, sr_same, sr_sr, up_s, up_o, -Int32.not_lt, -Int32.not_le] at *) <;> simp [bi, mm_u_sr, sr_same, sr_sr, up_s, up_o, *, -Int32.not_lt, -Int32.not_le]; done) | (simp_all [bi, mm_u_sr, sr_same, sr_sr, up_s, up_o]; done)
      · first | rfl | (simp [bi, mm_u_sr, sr_same, sr_sr, up_s, up_o, *]; done) | ((try simp [mm_u_sr, sr_same, sr_sr, up_s, up_o, -Int32.not_lt, -Int32.not_le] at *) <;> simp [bi, mm_u_sr, sr_same, sr_sr, up_s, up_o, *, -Int32.not_lt, -Int32.not_le]; done) | (simp_all [bi, mm_u_sr, sr_same, sr_sr, up_s, up_o]; done)
    · have h2' := Int32.not_le.mp h2
      refine go_pu (st' := .int (1) :: _) dX9_isChild_12 rfl ?_
      refine go_goto (t := 17) dX9_isChild_13 (by decide) ?_
      refine go_zret dX9_isChild_17 rfl (by first | exact Or.inl rfl | exact Or.inr rfl | assumption) ?_ ?_
      · first | rfl | (simp [bi, mm_u_sr, sr_same, sr_sr, up_s, up_o, *]; done) | ((try simp [mm_u_sr, sr_same, sr_sr, up_s, up_o, -Int32.not_lt, -Int32.not_le] at *) <;> simp [bi, mm_u_sr, sr_same, sr_sr, up_s, up_o, *, -Int32.not_lt, -Int32.not_le]; done) | (simp_all [bi, mm_u_sr, sr_same, sr_sr, up_s, up_o]; done)
      · first | rfl | (simp [bi, mm_u_sr, sr_same, sr_sr, up_s, up_o, *]; done) | ((try simp [mm_u_sr, sr_same, sr_sr, up_s, up_o, -Int32.not_lt, -Int32.not_le] at *) <;> simp [bi, mm_u_sr, sr_same, sr_sr, up_s, up_o, *, -Int32.not_lt, -Int32.not_le]; done) | (simp_all [bi, mm_u_sr, sr_same, sr_sr, up_s, up_o]; done)

set_option maxHeartbeats 1000000 in
theorem ok_X9_isSack (d : Nat) (I : mI) (L : mL) (x : Int32) : mm_Call (d + 1) 131 [.ref 108, .int x] (mm_sh, mm_R, I, L) (some (.int (bi (0 ≤ x ∧ x < I 108 1)))) (mm_sh, mm_R, I, L) := by
  refine mm_Call.of_go (d := d + 0) me_131 ⟨Nat.le_of_ble_eq_true rfl, rfl⟩ ?_
  show mm_Go mm_cs0 _ _ _ _ _ _ [some (.ref _), some (.int _)] [] _ _ _
  refine go_iload_n dX9_isSack_0 rfl ?_
  refine go_ifc (t := 16) dX9_isSack_1 (by decide) c1_lt (fun h1 => ?_) (fun h1 => ?_)
  · have h1' := Int32.not_le.mpr h1
    refine go_pu (st' := .int (0) :: _) dX9_isSack_16 rfl ?_
    refine go_zret dX9_isSack_17 rfl (by first | exact Or.inl rfl | exact Or.inr rfl | assumption) ?_ ?_
    · first | rfl | (simp [bi, mm_u_sr, sr_same, sr_sr, up_s, up_o, *]; done) | ((try simp [mm_u_sr, sr_same, sr_sr, up_s, up_o, -Int32.not_lt, -Int32.not_le] at *) <;> simp [bi, mm_u_sr, sr_same, sr_sr, up_s, up_o, *, -Int32.not_lt, -Int32.not_le]; done) | (simp_all [bi, mm_u_sr, sr_same, sr_sr, up_s, up_o]; done)
    · first | rfl | (simp [bi, mm_u_sr, sr_same, sr_sr, up_s, up_o, *]; done) | ((try simp [mm_u_sr, sr_same, sr_sr, up_s, up_o, -Int32.not_lt, -Int32.not_le] at *) <;> simp [bi, mm_u_sr, sr_same, sr_sr, up_s, up_o, *, -Int32.not_lt, -Int32.not_le]; done) | (simp_all [bi, mm_u_sr, sr_same, sr_sr, up_s, up_o]; done)
  · have h1' := Int32.not_lt.mp h1
    refine go_iload_n dX9_isSack_4 rfl ?_
    refine go_aload_n dX9_isSack_5 rfl ?_
    refine go_gi dX9_isSack_6 mf_9_120 (by decide) (by first | rfl | assumption | (simp only [*]; done)) ?_
    refine go_icc (t := 16) dX9_isSack_9 (by decide) c2_ge (fun h2 => ?_) (fun h2 => ?_)
    · have h2' := Int32.not_lt.mpr h2
      refine go_pu (st' := .int (0) :: _) dX9_isSack_16 rfl ?_
      refine go_zret dX9_isSack_17 rfl (by first | exact Or.inl rfl | exact Or.inr rfl | assumption) ?_ ?_
      · first | rfl | (simp [bi, mm_u_sr, sr_same, sr_sr, up_s, up_o, *]; done) | ((try simp [mm_u_sr, sr_same, sr_sr, up_s, up_o, -Int32.not_lt, -Int32.not_le] at *) <;> simp [bi, mm_u_sr, sr_same, sr_sr, up_s, up_o, *, -Int32.not_lt, -Int32.not_le]; done) | (simp_all [bi, mm_u_sr, sr_same, sr_sr, up_s, up_o]; done)
      · first | rfl | (simp [bi, mm_u_sr, sr_same, sr_sr, up_s, up_o, *]; done) | ((try simp [mm_u_sr, sr_same, sr_sr, up_s, up_o, -Int32.not_lt, -Int32.not_le] at *) <;> simp [bi, mm_u_sr, sr_same, sr_sr, up_s, up_o, *, -Int32.not_lt, -Int32.not_le]; done) | (simp_all [bi, mm_u_sr, sr_same, sr_sr, up_s, up_o]; done)
    · have h2' := Int32.not_le.mp h2
      refine go_pu (st' := .int (1) :: _) dX9_isSack_12 rfl ?_
      refine go_goto (t := 17) dX9_isSack_13 (by decide) ?_
      refine go_zret dX9_isSack_17 rfl (by first | exact Or.inl rfl | exact Or.inr rfl | assumption) ?_ ?_
      · first | rfl | (simp [bi, mm_u_sr, sr_same, sr_sr, up_s, up_o, *]; done) | ((try simp [mm_u_sr, sr_same, sr_sr, up_s, up_o, -Int32.not_lt, -Int32.not_le] at *) <;> simp [bi, mm_u_sr, sr_same, sr_sr, up_s, up_o, *, -Int32.not_lt, -Int32.not_le]; done) | (simp_all [bi, mm_u_sr, sr_same, sr_sr, up_s, up_o]; done)
      · first | rfl | (simp [bi, mm_u_sr, sr_same, sr_sr, up_s, up_o, *]; done) | ((try simp [mm_u_sr, sr_same, sr_sr, up_s, up_o, -Int32.not_lt, -Int32.not_le] at *) <;> simp [bi, mm_u_sr, sr_same, sr_sr, up_s, up_o, *, -Int32.not_lt, -Int32.not_le]; done) | (simp_all [bi, mm_u_sr, sr_same, sr_sr, up_s, up_o]; done)

set_option maxHeartbeats 1000000 in
theorem ok_X9_abs (d : Nat) (I : mI) (L : mL) (x : Int32) : mm_Call (d + 1) 132 [.ref 108, .int x] (mm_sh, mm_R, I, L) (some (.int (if x < 0 then -x else x))) (mm_sh, mm_R, I, L) := by
  refine mm_Call.of_go (d := d + 0) me_132 ⟨Nat.le_of_ble_eq_true rfl, rfl⟩ ?_
  show mm_Go mm_cs0 _ _ _ _ _ _ [some (.ref _), some (.int _)] [] _ _ _
  refine go_iload_n dX9_abs_0 rfl ?_
  refine go_ifc (t := 9) dX9_abs_1 (by decide) c1_ge (fun h1 => ?_) (fun h1 => ?_)
  · have h1' := Int32.not_lt.mpr h1
    refine go_iload_n dX9_abs_9 rfl ?_
    refine go_iret dX9_abs_10 rfl ?_ ?_
    · first | rfl | (simp [bi, mm_u_sr, sr_same, sr_sr, up_s, up_o, *]; done) | ((try simp [mm_u_sr, sr_same, sr_sr, up_s, up_o, -Int32.not_lt, -Int32.not_le] at *) <;> simp [bi, mm_u_sr, sr_same, sr_sr, up_s, up_o, *, -Int32.not_lt, -Int32.not_le]; done) | (simp_all [bi, mm_u_sr, sr_same, sr_sr, up_s, up_o]; done)
    · first | rfl | (simp [bi, mm_u_sr, sr_same, sr_sr, up_s, up_o, *]; done) | ((try simp [mm_u_sr, sr_same, sr_sr, up_s, up_o, -Int32.not_lt, -Int32.not_le] at *) <;> simp [bi, mm_u_sr, sr_same, sr_sr, up_s, up_o, *, -Int32.not_lt, -Int32.not_le]; done) | (simp_all [bi, mm_u_sr, sr_same, sr_sr, up_s, up_o]; done)
  · have h1' := Int32.not_le.mp h1
    refine go_iload_n dX9_abs_4 rfl ?_
    refine go_pu (st' := .int _ :: _) dX9_abs_5 rfl ?_
    refine go_goto (t := 10) dX9_abs_6 (by decide) ?_
    refine go_iret dX9_abs_10 rfl ?_ ?_
    · first | rfl | (simp [bi, mm_u_sr, sr_same, sr_sr, up_s, up_o, *]; done) | ((try simp [mm_u_sr, sr_same, sr_sr, up_s, up_o, -Int32.not_lt, -Int32.not_le] at *) <;> simp [bi, mm_u_sr, sr_same, sr_sr, up_s, up_o, *, -Int32.not_lt, -Int32.not_le]; done) | (simp_all [bi, mm_u_sr, sr_same, sr_sr, up_s, up_o]; done)
    · first | rfl | (simp [bi, mm_u_sr, sr_same, sr_sr, up_s, up_o, *]; done) | ((try simp [mm_u_sr, sr_same, sr_sr, up_s, up_o, -Int32.not_lt, -Int32.not_le] at *) <;> simp [bi, mm_u_sr, sr_same, sr_sr, up_s, up_o, *, -Int32.not_lt, -Int32.not_le]; done) | (simp_all [bi, mm_u_sr, sr_same, sr_sr, up_s, up_o]; done)

set_option maxHeartbeats 1000000 in
theorem ok_X9_one (d : Nat) (I : mI) (L : mL) (x : Int32) : mm_Call (d + 1) 168 [.ref 108, .int x] (mm_sh, mm_R, I, L) (some (.int (if x < 1 then 1 else x))) (mm_sh, mm_R, I, L) := by
  refine mm_Call.of_go (d := d + 0) me_168 ⟨Nat.le_of_ble_eq_true rfl, rfl⟩ ?_
  show mm_Go mm_cs0 _ _ _ _ _ _ [some (.ref _), some (.int _)] [] _ _ _
  refine go_iload_n dX9_one_0 rfl ?_
  refine go_pu (st' := .int (1) :: _) dX9_one_1 rfl ?_
  refine go_icc (t := 9) dX9_one_2 (by decide) c2_ge (fun h1 => ?_) (fun h1 => ?_)
  · have h1' := Int32.not_lt.mpr h1
    refine go_iload_n dX9_one_9 rfl ?_
    refine go_iret dX9_one_10 rfl ?_ ?_
    · first | rfl | (simp [bi, mm_u_sr, sr_same, sr_sr, up_s, up_o, *]; done) | ((try simp [mm_u_sr, sr_same, sr_sr, up_s, up_o, -Int32.not_lt, -Int32.not_le] at *) <;> simp [bi, mm_u_sr, sr_same, sr_sr, up_s, up_o, *, -Int32.not_lt, -Int32.not_le]; done) | (simp_all [bi, mm_u_sr, sr_same, sr_sr, up_s, up_o]; done)
    · first | rfl | (simp [bi, mm_u_sr, sr_same, sr_sr, up_s, up_o, *]; done) | ((try simp [mm_u_sr, sr_same, sr_sr, up_s, up_o, -Int32.not_lt, -Int32.not_le] at *) <;> simp [bi, mm_u_sr, sr_same, sr_sr, up_s, up_o, *, -Int32.not_lt, -Int32.not_le]; done) | (simp_all [bi, mm_u_sr, sr_same, sr_sr, up_s, up_o]; done)
  · have h1' := Int32.not_le.mp h1
    refine go_pu (st' := .int (1) :: _) dX9_one_5 rfl ?_
    refine go_goto (t := 10) dX9_one_6 (by decide) ?_
    refine go_iret dX9_one_10 rfl ?_ ?_
    · first | rfl | (simp [bi, mm_u_sr, sr_same, sr_sr, up_s, up_o, *]; done) | ((try simp [mm_u_sr, sr_same, sr_sr, up_s, up_o, -Int32.not_lt, -Int32.not_le] at *) <;> simp [bi, mm_u_sr, sr_same, sr_sr, up_s, up_o, *, -Int32.not_lt, -Int32.not_le]; done) | (simp_all [bi, mm_u_sr, sr_same, sr_sr, up_s, up_o]; done)
    · first | rfl | (simp [bi, mm_u_sr, sr_same, sr_sr, up_s, up_o, *]; done) | ((try simp [mm_u_sr, sr_same, sr_sr, up_s, up_o, -Int32.not_lt, -Int32.not_le] at *) <;> simp [bi, mm_u_sr, sr_same, sr_sr, up_s, up_o, *, -Int32.not_lt, -Int32.not_le]; done) | (simp_all [bi, mm_u_sr, sr_same, sr_sr, up_s, up_o]; done)
