/-! LAYER A: the class's times -/
theorem x_take_62 (I : mI) (c : Int32) : x_take I 62 1 c 62 = upd (upd (I 62) 1 0) 2 (I 1 5) := by simp [x_take, sr_same]
theorem x_take_63 (I : mI) (c : Int32) : x_take I 62 1 c 63 = c_become (I 63) (I (5 + c.toNatClampNeg)) := by simp [x_take, sr_same, sr_other]
theorem x_take_o (I : mI) (c : Int32) {k : Nat} (h1 : k ≠ 62) (h2 : k ≠ 63) : x_take I 62 1 c k = I k := by simp [x_take, sr_other, h1, h2]
theorem c_become_0 (κ σ : mRow) : c_become κ σ 0 = σ 0 := by simp [c_become, up_s, up_o]
theorem c_become_1 (κ σ : mRow) : c_become κ σ 1 = σ 1 := by simp [c_become, up_s, up_o]
theorem c_become_2 (κ σ : mRow) : c_become κ σ 2 = σ 2 := by simp [c_become, up_s, up_o]
theorem c_become_3 (κ σ : mRow) : c_become κ σ 3 = σ 3 := by simp [c_become, up_s, up_o]
theorem c_become_4 (κ σ : mRow) : c_become κ σ 4 = σ 4 := by simp [c_become, up_s, up_o]
theorem c_become_5 (κ σ : mRow) : c_become κ σ 5 = σ 5 := by simp [c_become, up_s, up_o]
/-- the memory behind a time of alone, and the time -/
def x_end (X : mI) : mI := sr X 62 (x_ttr X 62 1)
def x_tim (X : mI) : Int32 := r_time (x_ttr X 62 1)
/-- what the class's now must be for a time -/
def nOk (I : mI) (c : Int32) : Prop := (0 ≤ c ∧ c < I 1 1) ∧ I 1 1 ≤ 8 ∧ I 1 3 ≤ 8 ∧ (I 1 5 = 0 ∨ I 1 5 = 1) ∧ isKd (I (5 + c.toNatClampNeg) 0)
def x_as (I : mI) (c k : Int32) : mI := sr (x_take I 62 1 c) 63 (upd (x_take I 62 1 c 63) 0 k)
def x_inn (I : mI) (c s : Int32) : mI := sr (x_take I 62 1 c) 63 (upd (x_take I 62 1 c 63) 3 s)
def x_rol (I : mI) (c b : Int32) : mI := sr (x_take I 62 1 c) 62 (upd (x_take I 62 1 c 62) 2 b)

set_option maxHeartbeats 1000000 in
theorem ok_X8_timeOf (d : Nat) (I : mI) (L : mL) (c : Int32) (ho : nOk I c) : mm_Call (d + 5) 109 [.ref 0, .int c] (mm_sh, mm_R, I, L) (some (.int (x_tim (x_take I 62 1 c)))) (mm_sh, mm_R, (x_end (x_take I 62 1 c)), L) := by
  refine mm_Call.of_go (d := d + 4) me_109 ⟨Nat.le_of_ble_eq_true rfl, rfl⟩ ?_
  show mm_Go mm_cs0 _ _ _ _ _ _ [some (.ref _), some (.int _)] [] _ _ _
  refine go_aload_n dX8_timeOf_0 rfl ?_
  refine go_gr dX8_timeOf_1 mf_8_31 rfl (by first | rfl | assumption | (simp only [*]; done)) (by first | rfl | assumption | (simp only [*]; done)) ?_
  refine go_aload_n dX8_timeOf_4 rfl ?_
  refine go_gr dX8_timeOf_5 mf_8_10 rfl (by first | rfl | assumption | (simp only [*]; done)) (by first | rfl | assumption | (simp only [*]; done)) ?_
  refine go_iload_n dX8_timeOf_8 rfl ?_
  refine go_call (kind := 1) (args := [.ref _, .ref _, .int _]) (rest := _) dX8_timeOf_9 (Or.inr (Or.inl ⟨rfl, rfl⟩)) mk_8_167 (by decide) me_22 rfl rfl rfl rfl rfl (mm_rc_of (by first | rfl | assumption | (simp only [*]; done))) (ok_X4_take _ _ _ 62 1 _ isRa_62 isF_1 (by decide) ho.1 ho.2.1 ho.2.2.2.1) rfl ?_
  refine go_aload_n dX8_timeOf_12 rfl ?_
  refine go_gr dX8_timeOf_13 mf_8_31 rfl (by first | rfl | assumption | (simp only [*]; done)) (by first | rfl | assumption | (simp only [*]; done)) ?_
  refine go_aload_n dX8_timeOf_16 rfl ?_
  refine go_gr dX8_timeOf_17 mf_8_10 rfl (by first | rfl | assumption | (simp only [*]; done)) (by first | rfl | assumption | (simp only [*]; done)) ?_
  refine go_call (kind := 1) (args := [.ref _, .ref _]) (rest := _) dX8_timeOf_20 (Or.inr (Or.inl ⟨rfl, rfl⟩)) mk_8_319 (by decide) me_32 rfl rfl rfl rfl rfl (mm_rc_of (by first | rfl | assumption | (simp only [*]; done))) (ok_X4_timeToRope _ _ _ 62 1 isRa_62 isF_1 (by decide) (by first | (simpa [x_take_62, x_take_63, x_take_o, c_become_0, sr_same, sr_other, up_s, up_o, mm_u_sr, x_as, x_inn, x_rol] using ho.2.2.2.2) | (simpa [x_take_62, x_take_63, x_take_o, c_become_0, sr_same, sr_other, up_s, up_o, mm_u_sr, x_as, x_inn, x_rol] using hk)) (by simpa [x_take_62, x_take_63, x_take_o, c_become_0, sr_same, sr_other, up_s, up_o, mm_u_sr, x_as, x_inn, x_rol] using ho.2.2.1)) rfl ?_
  refine go_iret dX8_timeOf_23 rfl ?_ ?_
  · first | with_reducible rfl | (simp only [x_end, x_tim, x_take, mm_u_sr]; done)
  · first | with_reducible rfl | (simp only [x_end, x_tim, x_take, mm_u_sr]; done)

set_option maxHeartbeats 1000000 in
theorem ok_X8_timeAs (d : Nat) (I : mI) (L : mL) (c : Int32) (ho : nOk I c) (k : Int32) (hk : isKd k) : mm_Call (d + 5) 110 [.ref 0, .int c, .int k] (mm_sh, mm_R, I, L) (some (.int (x_tim (x_as I c k)))) (mm_sh, mm_R, (x_end (x_as I c k)), L) := by
  refine mm_Call.of_go (d := d + 4) me_110 ⟨Nat.le_of_ble_eq_true rfl, rfl⟩ ?_
  show mm_Go mm_cs0 _ _ _ _ _ _ [some (.ref _), some (.int _), some (.int _)] [] _ _ _
  refine go_aload_n dX8_timeAs_0 rfl ?_
  refine go_gr dX8_timeAs_1 mf_8_31 rfl (by first | rfl | assumption | (simp only [*]; done)) (by first | rfl | assumption | (simp only [*]; done)) ?_
  refine go_aload_n dX8_timeAs_4 rfl ?_
  refine go_gr dX8_timeAs_5 mf_8_10 rfl (by first | rfl | assumption | (simp only [*]; done)) (by first | rfl | assumption | (simp only [*]; done)) ?_
  refine go_iload_n dX8_timeAs_8 rfl ?_
  refine go_call (kind := 1) (args := [.ref _, .ref _, .int _]) (rest := _) dX8_timeAs_9 (Or.inr (Or.inl ⟨rfl, rfl⟩)) mk_8_167 (by decide) me_22 rfl rfl rfl rfl rfl (mm_rc_of (by first | rfl | assumption | (simp only [*]; done))) (ok_X4_take _ _ _ 62 1 _ isRa_62 isF_1 (by decide) ho.1 ho.2.1 ho.2.2.2.1) rfl ?_
  refine go_aload_n dX8_timeAs_12 rfl ?_
  refine go_gr dX8_timeAs_13 mf_8_31 rfl (by first | rfl | assumption | (simp only [*]; done)) (by first | rfl | assumption | (simp only [*]; done)) ?_
  refine go_gr dX8_timeAs_16 mf_8_175 rfl (by first | rfl | assumption | (simp only [*]; done)) (by first | rfl | assumption | (simp only [*]; done)) ?_
  refine go_iload_n dX8_timeAs_19 rfl ?_
  refine go_pi dX8_timeAs_20 mf_8_142 rfl rfl (by first | rfl | assumption | (simp only [*]; done)) ?_
  refine go_aload_n dX8_timeAs_23 rfl ?_
  refine go_gr dX8_timeAs_24 mf_8_31 rfl (by first | rfl | assumption | (simp only [*]; done)) (by first | rfl | assumption | (simp only [*]; done)) ?_
  refine go_aload_n dX8_timeAs_27 rfl ?_
  refine go_gr dX8_timeAs_28 mf_8_10 rfl (by first | rfl | assumption | (simp only [*]; done)) (by first | rfl | assumption | (simp only [*]; done)) ?_
  refine go_call (kind := 1) (args := [.ref _, .ref _]) (rest := _) dX8_timeAs_31 (Or.inr (Or.inl ⟨rfl, rfl⟩)) mk_8_319 (by decide) me_32 rfl rfl rfl rfl rfl (mm_rc_of (by first | rfl | assumption | (simp only [*]; done))) (ok_X4_timeToRope _ _ _ 62 1 isRa_62 isF_1 (by decide) (by first | (simpa [x_take_62, x_take_63, x_take_o, c_become_0, sr_same, sr_other, up_s, up_o, mm_u_sr, x_as, x_inn, x_rol] using ho.2.2.2.2) | (simpa [x_take_62, x_take_63, x_take_o, c_become_0, sr_same, sr_other, up_s, up_o, mm_u_sr, x_as, x_inn, x_rol] using hk)) (by simpa [x_take_62, x_take_63, x_take_o, c_become_0, sr_same, sr_other, up_s, up_o, mm_u_sr, x_as, x_inn, x_rol] using ho.2.2.1)) rfl ?_
  refine go_iret dX8_timeAs_34 rfl ?_ ?_
  · first | with_reducible rfl | (simp only [x_end, x_tim, x_as, mm_u_sr]; done)
  · first | with_reducible rfl | (simp only [x_end, x_tim, x_as, mm_u_sr]; done)

set_option maxHeartbeats 1000000 in
theorem ok_X8_timeIn (d : Nat) (I : mI) (L : mL) (c : Int32) (ho : nOk I c) (s : Int32) : mm_Call (d + 5) 111 [.ref 0, .int c, .int s] (mm_sh, mm_R, I, L) (some (.int (x_tim (x_inn I c s)))) (mm_sh, mm_R, (x_end (x_inn I c s)), L) := by
  refine mm_Call.of_go (d := d + 4) me_111 ⟨Nat.le_of_ble_eq_true rfl, rfl⟩ ?_
  show mm_Go mm_cs0 _ _ _ _ _ _ [some (.ref _), some (.int _), some (.int _)] [] _ _ _
  refine go_aload_n dX8_timeIn_0 rfl ?_
  refine go_gr dX8_timeIn_1 mf_8_31 rfl (by first | rfl | assumption | (simp only [*]; done)) (by first | rfl | assumption | (simp only [*]; done)) ?_
  refine go_aload_n dX8_timeIn_4 rfl ?_
  refine go_gr dX8_timeIn_5 mf_8_10 rfl (by first | rfl | assumption | (simp only [*]; done)) (by first | rfl | assumption | (simp only [*]; done)) ?_
  refine go_iload_n dX8_timeIn_8 rfl ?_
  refine go_call (kind := 1) (args := [.ref _, .ref _, .int _]) (rest := _) dX8_timeIn_9 (Or.inr (Or.inl ⟨rfl, rfl⟩)) mk_8_167 (by decide) me_22 rfl rfl rfl rfl rfl (mm_rc_of (by first | rfl | assumption | (simp only [*]; done))) (ok_X4_take _ _ _ 62 1 _ isRa_62 isF_1 (by decide) ho.1 ho.2.1 ho.2.2.2.1) rfl ?_
  refine go_aload_n dX8_timeIn_12 rfl ?_
  refine go_gr dX8_timeIn_13 mf_8_31 rfl (by first | rfl | assumption | (simp only [*]; done)) (by first | rfl | assumption | (simp only [*]; done)) ?_
  refine go_gr dX8_timeIn_16 mf_8_175 rfl (by first | rfl | assumption | (simp only [*]; done)) (by first | rfl | assumption | (simp only [*]; done)) ?_
  refine go_iload_n dX8_timeIn_19 rfl ?_
  refine go_pi dX8_timeIn_20 mf_8_185 rfl rfl (by first | rfl | assumption | (simp only [*]; done)) ?_
  refine go_aload_n dX8_timeIn_23 rfl ?_
  refine go_gr dX8_timeIn_24 mf_8_31 rfl (by first | rfl | assumption | (simp only [*]; done)) (by first | rfl | assumption | (simp only [*]; done)) ?_
  refine go_aload_n dX8_timeIn_27 rfl ?_
  refine go_gr dX8_timeIn_28 mf_8_10 rfl (by first | rfl | assumption | (simp only [*]; done)) (by first | rfl | assumption | (simp only [*]; done)) ?_
  refine go_call (kind := 1) (args := [.ref _, .ref _]) (rest := _) dX8_timeIn_31 (Or.inr (Or.inl ⟨rfl, rfl⟩)) mk_8_319 (by decide) me_32 rfl rfl rfl rfl rfl (mm_rc_of (by first | rfl | assumption | (simp only [*]; done))) (ok_X4_timeToRope _ _ _ 62 1 isRa_62 isF_1 (by decide) (by first | (simpa [x_take_62, x_take_63, x_take_o, c_become_0, sr_same, sr_other, up_s, up_o, mm_u_sr, x_as, x_inn, x_rol] using ho.2.2.2.2) | (simpa [x_take_62, x_take_63, x_take_o, c_become_0, sr_same, sr_other, up_s, up_o, mm_u_sr, x_as, x_inn, x_rol] using hk)) (by simpa [x_take_62, x_take_63, x_take_o, c_become_0, sr_same, sr_other, up_s, up_o, mm_u_sr, x_as, x_inn, x_rol] using ho.2.2.1)) rfl ?_
  refine go_iret dX8_timeIn_34 rfl ?_ ?_
  · first | with_reducible rfl | (simp only [x_end, x_tim, x_inn, mm_u_sr]; done)
  · first | with_reducible rfl | (simp only [x_end, x_tim, x_inn, mm_u_sr]; done)

set_option maxHeartbeats 1000000 in
theorem ok_X8_timeRolling (d : Nat) (I : mI) (L : mL) (c : Int32) (ho : nOk I c) (b : Int32) (hb : b = 0 ∨ b = 1) : mm_Call (d + 5) 112 [.ref 0, .int c, .int b] (mm_sh, mm_R, I, L) (some (.int (x_tim (x_rol I c b)))) (mm_sh, mm_R, (x_end (x_rol I c b)), L) := by
  refine mm_Call.of_go (d := d + 4) me_112 ⟨Nat.le_of_ble_eq_true rfl, rfl⟩ ?_
  show mm_Go mm_cs0 _ _ _ _ _ _ [some (.ref _), some (.int _), some (.int _)] [] _ _ _
  refine go_aload_n dX8_timeRolling_0 rfl ?_
  refine go_gr dX8_timeRolling_1 mf_8_31 rfl (by first | rfl | assumption | (simp only [*]; done)) (by first | rfl | assumption | (simp only [*]; done)) ?_
  refine go_aload_n dX8_timeRolling_4 rfl ?_
  refine go_gr dX8_timeRolling_5 mf_8_10 rfl (by first | rfl | assumption | (simp only [*]; done)) (by first | rfl | assumption | (simp only [*]; done)) ?_
  refine go_iload_n dX8_timeRolling_8 rfl ?_
  refine go_call (kind := 1) (args := [.ref _, .ref _, .int _]) (rest := _) dX8_timeRolling_9 (Or.inr (Or.inl ⟨rfl, rfl⟩)) mk_8_167 (by decide) me_22 rfl rfl rfl rfl rfl (mm_rc_of (by first | rfl | assumption | (simp only [*]; done))) (ok_X4_take _ _ _ 62 1 _ isRa_62 isF_1 (by decide) ho.1 ho.2.1 ho.2.2.2.1) rfl ?_
  refine go_aload_n dX8_timeRolling_12 rfl ?_
  refine go_gr dX8_timeRolling_13 mf_8_31 rfl (by first | rfl | assumption | (simp only [*]; done)) (by first | rfl | assumption | (simp only [*]; done)) ?_
  refine go_iload_n dX8_timeRolling_16 rfl ?_
  refine go_pz dX8_timeRolling_17 mf_8_365 rfl rfl hb (by first | rfl | assumption | (simp only [*]; done)) ?_
  refine go_aload_n dX8_timeRolling_20 rfl ?_
  refine go_gr dX8_timeRolling_21 mf_8_31 rfl (by first | rfl | assumption | (simp only [*]; done)) (by first | rfl | assumption | (simp only [*]; done)) ?_
  refine go_aload_n dX8_timeRolling_24 rfl ?_
  refine go_gr dX8_timeRolling_25 mf_8_10 rfl (by first | rfl | assumption | (simp only [*]; done)) (by first | rfl | assumption | (simp only [*]; done)) ?_
  refine go_call (kind := 1) (args := [.ref _, .ref _]) (rest := _) dX8_timeRolling_28 (Or.inr (Or.inl ⟨rfl, rfl⟩)) mk_8_319 (by decide) me_32 rfl rfl rfl rfl rfl (mm_rc_of (by first | rfl | assumption | (simp only [*]; done))) (ok_X4_timeToRope _ _ _ 62 1 isRa_62 isF_1 (by decide) (by first | (simpa [x_take_62, x_take_63, x_take_o, c_become_0, sr_same, sr_other, up_s, up_o, mm_u_sr, x_as, x_inn, x_rol] using ho.2.2.2.2) | (simpa [x_take_62, x_take_63, x_take_o, c_become_0, sr_same, sr_other, up_s, up_o, mm_u_sr, x_as, x_inn, x_rol] using hk)) (by simpa [x_take_62, x_take_63, x_take_o, c_become_0, sr_same, sr_other, up_s, up_o, mm_u_sr, x_as, x_inn, x_rol] using ho.2.2.1)) rfl ?_
  refine go_iret dX8_timeRolling_31 rfl ?_ ?_
  · first | with_reducible rfl | (simp only [x_end, x_tim, x_rol, mm_u_sr]; done)
  · first | with_reducible rfl | (simp only [x_end, x_tim, x_rol, mm_u_sr]; done)
