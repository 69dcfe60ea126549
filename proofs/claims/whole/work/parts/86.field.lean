/-! FIELDS: the reference carries all to an array and back -/
section P86
variable {I C J : pI} {L : pL} {N S : Nat}

set_option maxHeartbeats 400000 in
theorem to_0 (d : Nat) (J : pI) : cP (d + 1) 151 [.ref 108, .int 0] (mm_sh, mm_R, J, L) (pX (some (.int (J 108 2))) L (fun K => K = J)) := by
  refine cP.of_gP (d := d + 0) me_151 ⟨Nat.le_of_ble_eq_true rfl, rfl⟩ ?_
  show gP mm_cs0 _ _ _ _ _ _ [some (.ref _), some (.int _)] [] _ _
  refine gp_iload_n dX9_told_0 rfl ?_
  refine gp_ifc (t := 11) dX9_told_1 (by decide) c1_ne (fun h1 => ?_) (fun h1 => ?_)
  · exact absurd h1 (by decide)
  · refine gp_aload_n dX9_told_4 rfl ?_
    refine gp_giv dX9_told_5 mf_9_7 (by decide) (by first | rfl | assumption | (simp only [*]; done)) (by first | exact rfl) ?_
    refine gp_goto (t := 39) dX9_told_8 (by decide) ?_
    refine gp_iret dX9_told_39 rfl ?_
    exact pX.mk rfl rfl

set_option maxHeartbeats 400000 in
theorem tl_0 (d : Nat) (J : pI) {x : Int32} : cP (d + 1) 152 [.ref 108, .int 0, .int x] (mm_sh, mm_R, J, L) (pX none L (fun K => K = mm_u J 108 2 x)) := by
  refine cP.of_gP (d := d + 0) me_152 ⟨Nat.le_of_ble_eq_true rfl, rfl⟩ ?_
  show gP mm_cs0 _ _ _ _ _ _ [some (.ref _), some (.int _), some (.int _)] [] _ _
  refine gp_iload_n dX9_tells_0 rfl ?_
  refine gp_ts (t := 28) dX9_tells_1 rfl (by decide) ?_
  refine gp_aload_n dX9_tells_28 rfl ?_
  refine gp_iload_n dX9_tells_29 rfl ?_
  refine gp_pi dX9_tells_30 mf_9_7 rfl rfl (by first | rfl | assumption | (simp only [*]; done)) ?_
  refine gp_goto (t := 57) dX9_tells_33 (by decide) ?_
  refine gp_vret dX9_tells_57 rfl ?_
  exact pX.mk rfl rfl

set_option maxHeartbeats 400000 in
theorem to_1 (d : Nat) (J : pI) : cP (d + 1) 151 [.ref 108, .int 1] (mm_sh, mm_R, J, L) (pX (some (.int (J 108 3))) L (fun K => K = J)) := by
  refine cP.of_gP (d := d + 0) me_151 ⟨Nat.le_of_ble_eq_true rfl, rfl⟩ ?_
  show gP mm_cs0 _ _ _ _ _ _ [some (.ref _), some (.int _)] [] _ _
  refine gp_iload_n dX9_told_0 rfl ?_
  refine gp_ifc (t := 11) dX9_told_1 (by decide) c1_ne (fun h1 => ?_) (fun h1 => ?_)
  · refine gp_iload_n dX9_told_11 rfl ?_
    refine gp_pu (st' := .int (1) :: _) dX9_told_12 rfl ?_
    refine gp_icc (t := 23) dX9_told_13 (by decide) c2_ne (fun h2 => ?_) (fun h2 => ?_)
    · exact absurd h2 (by decide)
    · refine gp_aload_n dX9_told_16 rfl ?_
      refine gp_giv dX9_told_17 mf_9_13 (by decide) (by first | rfl | assumption | (simp only [*]; done)) (by first | exact rfl) ?_
      refine gp_goto (t := 39) dX9_told_20 (by decide) ?_
      refine gp_iret dX9_told_39 rfl ?_
      exact pX.mk rfl rfl
  · exact absurd (by decide) h1

set_option maxHeartbeats 400000 in
theorem tl_1 (d : Nat) (J : pI) {x : Int32} : cP (d + 1) 152 [.ref 108, .int 1, .int x] (mm_sh, mm_R, J, L) (pX none L (fun K => K = mm_u J 108 3 x)) := by
  refine cP.of_gP (d := d + 0) me_152 ⟨Nat.le_of_ble_eq_true rfl, rfl⟩ ?_
  show gP mm_cs0 _ _ _ _ _ _ [some (.ref _), some (.int _), some (.int _)] [] _ _
  refine gp_iload_n dX9_tells_0 rfl ?_
  refine gp_ts (t := 36) dX9_tells_1 rfl (by decide) ?_
  refine gp_aload_n dX9_tells_36 rfl ?_
  refine gp_iload_n dX9_tells_37 rfl ?_
  refine gp_pi dX9_tells_38 mf_9_13 rfl rfl (by first | rfl | assumption | (simp only [*]; done)) ?_
  refine gp_goto (t := 57) dX9_tells_41 (by decide) ?_
  refine gp_vret dX9_tells_57 rfl ?_
  exact pX.mk rfl rfl

set_option maxHeartbeats 400000 in
theorem to_2 (d : Nat) (J : pI) : cP (d + 1) 151 [.ref 108, .int 2] (mm_sh, mm_R, J, L) (pX (some (.int (J 108 4))) L (fun K => K = J)) := by
  refine cP.of_gP (d := d + 0) me_151 ⟨Nat.le_of_ble_eq_true rfl, rfl⟩ ?_
  show gP mm_cs0 _ _ _ _ _ _ [some (.ref _), some (.int _)] [] _ _
  refine gp_iload_n dX9_told_0 rfl ?_
  refine gp_ifc (t := 11) dX9_told_1 (by decide) c1_ne (fun h1 => ?_) (fun h1 => ?_)
  · refine gp_iload_n dX9_told_11 rfl ?_
    refine gp_pu (st' := .int (1) :: _) dX9_told_12 rfl ?_
    refine gp_icc (t := 23) dX9_told_13 (by decide) c2_ne (fun h2 => ?_) (fun h2 => ?_)
    · refine gp_iload_n dX9_told_23 rfl ?_
      refine gp_pu (st' := .int (2) :: _) dX9_told_24 rfl ?_
      refine gp_icc (t := 35) dX9_told_25 (by decide) c2_ne (fun h3 => ?_) (fun h3 => ?_)
      · exact absurd h3 (by decide)
      · refine gp_aload_n dX9_told_28 rfl ?_
        refine gp_giv dX9_told_29 mf_9_16 (by decide) (by first | rfl | assumption | (simp only [*]; done)) (by first | exact rfl) ?_
        refine gp_goto (t := 39) dX9_told_32 (by decide) ?_
        refine gp_iret dX9_told_39 rfl ?_
        exact pX.mk rfl rfl
    · exact absurd (by decide) h2
  · exact absurd (by decide) h1

set_option maxHeartbeats 400000 in
theorem tl_2 (d : Nat) (J : pI) {x : Int32} : cP (d + 1) 152 [.ref 108, .int 2, .int x] (mm_sh, mm_R, J, L) (pX none L (fun K => K = mm_u J 108 4 x)) := by
  refine cP.of_gP (d := d + 0) me_152 ⟨Nat.le_of_ble_eq_true rfl, rfl⟩ ?_
  show gP mm_cs0 _ _ _ _ _ _ [some (.ref _), some (.int _), some (.int _)] [] _ _
  refine gp_iload_n dX9_tells_0 rfl ?_
  refine gp_ts (t := 44) dX9_tells_1 rfl (by decide) ?_
  refine gp_aload_n dX9_tells_44 rfl ?_
  refine gp_iload_n dX9_tells_45 rfl ?_
  refine gp_pi dX9_tells_46 mf_9_16 rfl rfl (by first | rfl | assumption | (simp only [*]; done)) ?_
  refine gp_goto (t := 57) dX9_tells_49 (by decide) ?_
  refine gp_vret dX9_tells_57 rfl ?_
  exact pX.mk rfl rfl

set_option maxHeartbeats 400000 in
theorem to_3 (d : Nat) (J : pI) : cP (d + 1) 151 [.ref 108, .int 3] (mm_sh, mm_R, J, L) (pX (some (.int (J 108 5))) L (fun K => K = J)) := by
  refine cP.of_gP (d := d + 0) me_151 ⟨Nat.le_of_ble_eq_true rfl, rfl⟩ ?_
  show gP mm_cs0 _ _ _ _ _ _ [some (.ref _), some (.int _)] [] _ _
  refine gp_iload_n dX9_told_0 rfl ?_
  refine gp_ifc (t := 11) dX9_told_1 (by decide) c1_ne (fun h1 => ?_) (fun h1 => ?_)
  · refine gp_iload_n dX9_told_11 rfl ?_
    refine gp_pu (st' := .int (1) :: _) dX9_told_12 rfl ?_
    refine gp_icc (t := 23) dX9_told_13 (by decide) c2_ne (fun h2 => ?_) (fun h2 => ?_)
    · refine gp_iload_n dX9_told_23 rfl ?_
      refine gp_pu (st' := .int (2) :: _) dX9_told_24 rfl ?_
      refine gp_icc (t := 35) dX9_told_25 (by decide) c2_ne (fun h3 => ?_) (fun h3 => ?_)
      · refine gp_aload_n dX9_told_35 rfl ?_
        refine gp_giv dX9_told_36 mf_9_19 (by decide) (by first | rfl | assumption | (simp only [*]; done)) (by first | exact rfl) ?_
        refine gp_iret dX9_told_39 rfl ?_
        exact pX.mk rfl rfl
      · exact absurd (by decide) h3
    · exact absurd (by decide) h2
  · exact absurd (by decide) h1

set_option maxHeartbeats 400000 in
theorem tl_3 (d : Nat) (J : pI) {x : Int32} : cP (d + 1) 152 [.ref 108, .int 3, .int x] (mm_sh, mm_R, J, L) (pX none L (fun K => K = mm_u J 108 5 x)) := by
  refine cP.of_gP (d := d + 0) me_152 ⟨Nat.le_of_ble_eq_true rfl, rfl⟩ ?_
  show gP mm_cs0 _ _ _ _ _ _ [some (.ref _), some (.int _), some (.int _)] [] _ _
  refine gp_iload_n dX9_tells_0 rfl ?_
  refine gp_ts (t := 52) dX9_tells_1 rfl (by decide) ?_
  refine gp_aload_n dX9_tells_52 rfl ?_
  refine gp_iload_n dX9_tells_53 rfl ?_
  refine gp_pi dX9_tells_54 mf_9_19 rfl rfl (by first | rfl | assumption | (simp only [*]; done)) ?_
  refine gp_vret dX9_tells_57 rfl ?_
  exact pX.mk rfl rfl

def alA0 (T : Nat) (J : pI) : pI := (mm_cy (mm_cy (mm_cy (mm_cy (mm_cy (mm_cy (mm_cy (mm_cy J 110 T 0 0 8) 111 T 0 8 8) 112 T 0 16 8) 113 T 0 24 8) 114 T 0 32 8) 115 T 0 40 8) 116 T 0 48 8) 117 T 0 56 8)
def alB0 (T : Nat) (J : pI) : pI := (mm_cy (mm_cy (mm_cy (mm_cy (mm_cy (mm_cy (mm_cy (mm_cy J T 110 0 0 8) T 111 8 0 8) T 112 16 0 8) T 113 24 0 8) T 114 32 0 8) T 115 40 0 8) T 116 48 0 8) T 117 56 0 8)

def alA1 (T : Nat) (J : pI) : pI := mm_u (alA0 T J) T 64 (alA0 T J 108 2)
def alB1 (T : Nat) (J : pI) : pI := mm_u (alB0 T J) 108 2 (alB0 T J T 64)

def alA2 (T : Nat) (J : pI) : pI := mm_u (alA1 T J) T 65 (alA1 T J 108 3)
def alB2 (T : Nat) (J : pI) : pI := mm_u (alB1 T J) 108 3 (alB1 T J T 65)

def alA3 (T : Nat) (J : pI) : pI := mm_u (alA2 T J) T 66 (alA2 T J 108 4)
def alB3 (T : Nat) (J : pI) : pI := mm_u (alB2 T J) 108 4 (alB2 T J T 66)

def alA4 (T : Nat) (J : pI) : pI := mm_u (alA3 T J) T 67 (alA3 T J 108 5)
def alB4 (T : Nat) (J : pI) : pI := mm_u (alB3 T J) 108 5 (alB3 T J T 67)

def alA5 (T : Nat) (J : pI) : pI := mm_u (alA4 T J) T 68 (alA4 T J 108 0)
def alB5 (T : Nat) (J : pI) : pI := mm_u (alB4 T J) 108 0 (alB4 T J T 68)

def alA6 (T : Nat) (J : pI) : pI := mm_u (alA5 T J) T 69 (alA5 T J 108 1)
def alB6 (T : Nat) (J : pI) : pI := mm_u (alB5 T J) 108 1 (alB5 T J T 69)

def alA7 (T : Nat) (J : pI) : pI := mm_u (alA6 T J) T 70 (alA6 T J 108 6)
def alB7 (T : Nat) (J : pI) : pI := mm_u (alB6 T J) 108 6 (alB6 T J T 70)

def alA8 (T : Nat) (J : pI) : pI := mm_u (alA7 T J) T 71 (alA7 T J 108 7)
def alB8 (T : Nat) (J : pI) : pI := mm_u (alB7 T J) 108 7 (alB7 T J T 71)

def alA9 (T : Nat) (J : pI) : pI := mm_u (alA8 T J) T 72 (alA8 T J 108 8)
def alB9 (T : Nat) (J : pI) : pI := mm_u (alB8 T J) 108 8 (alB8 T J T 72)

/-- all is in the array T -/
def alX0 (T : Nat) (J K : pI) : Prop := (∀ k, k ≠ T → ∀ b, K k b = J k b) ∧ (∀ k j, fK8 k j → kV T K k j = J k j)
/-- all is as the array T has it -/
def alX1 (T : Nat) (J K : pI) : Prop := (∀ k j, fK8 k j → K k j = kV T J k j) ∧ (∀ k j, ¬ fK8 k j → K k j = J k j)
def cyA (T : Nat) (J : pI) : Nat → pI
  | 0 => J
  | n + 1 => mm_cy (cyA T J n) (110 + n) T 0 (8 * n) 8
def cyB (T : Nat) (J : pI) : Nat → pI
  | 0 => J
  | n + 1 => mm_cy (cyB T J n) T (110 + n) (8 * n) 0 8
theorem cyA_i (T : Nat) (hT : 118 ≤ T) (J : pI) (n : Nat) (hn : n ≤ 8) : ∀ a b, cyA T J n a b = if a = T ∧ b < 8 * n then J (110 + b / 8) (b % 8) else J a b := by
  induction n with
  | zero => intro a b; rw [if_neg (by omega)]; rfl
  | succ n ih =>
    intro a b
    have e : ∀ x, cyA T J n (110 + n) x = J (110 + n) x := fun x => by rw [ih (by omega), if_neg (by omega)]
    unfold cyA
    rw [mm_cy_i, e, ih (by omega)]
    by_cases h : a = T ∧ 8 * n ≤ b ∧ b < 8 * n + 8
    · rw [if_pos h, if_pos (by omega), show 110 + b / 8 = 110 + n by omega, show 0 + (b - 8 * n) = b % 8 by omega]
    · rw [if_neg h]
      by_cases h2 : a = T ∧ b < 8 * n
      · rw [if_pos h2, if_pos (by omega)]
      · rw [if_neg h2, if_neg (by omega)]
theorem cyB_i (T : Nat) (hT : 118 ≤ T) (J : pI) (n : Nat) (hn : n ≤ 8) : ∀ a b, cyB T J n a b = if 110 ≤ a ∧ a < 110 + n ∧ b < 8 then J T (8 * (a - 110) + b) else J a b := by
  induction n with
  | zero => intro a b; rw [if_neg (by omega)]; rfl
  | succ n ih =>
    intro a b
    have e : ∀ x, cyB T J n T x = J T x := fun x => by rw [ih (by omega), if_neg (by omega)]
    unfold cyB
    rw [mm_cy_i, e, ih (by omega)]
    by_cases h : a = 110 + n ∧ 0 ≤ b ∧ b < 0 + 8
    · rw [if_pos h, if_pos (by omega), show 8 * n + (b - 0) = 8 * (a - 110) + b by omega]
    · rw [if_neg h]
      by_cases h2 : 110 ≤ a ∧ a < 110 + n ∧ b < 8
      · rw [if_pos h2, if_pos (by omega)]
      · rw [if_neg h2, if_neg (by omega)]
theorem alA0_i (T : Nat) (hT : 118 ≤ T) (J : pI) (a b : Nat) : alA0 T J a b = if a = T ∧ b < 64 then J (110 + b / 8) (b % 8) else J a b := by
  show cyA T J 8 a b = _
  exact cyA_i T hT J 8 (by omega) a b
theorem alB0_i (T : Nat) (hT : 118 ≤ T) (J : pI) (a b : Nat) : alB0 T J a b = if 110 ≤ a ∧ a ≤ 117 ∧ b < 8 then J T (8 * (a - 110) + b) else J a b := by
  show cyB T J 8 a b = _
  rw [cyB_i T hT J 8 (by omega)]
  by_cases h : 110 ≤ a ∧ a ≤ 117 ∧ b < 8
  · rw [if_pos h, if_pos (by omega)]
  · rw [if_neg h, if_neg (by omega)]

theorem alA_108 (T : Nat) (hT : 118 ≤ T) (J : pI) (q : Nat) : alA0 T J 108 q = J 108 q := by rw [alA0_i T hT, if_neg (by omega)]

theorem alA1_108 (T : Nat) (hT : 118 ≤ T) (J : pI) (q : Nat) : alA1 T J 108 q = J 108 q := by unfold alA1; rw [mm_u_o _ _ _ _ (by omega)]; exact alA_108 T hT J q

theorem alA2_108 (T : Nat) (hT : 118 ≤ T) (J : pI) (q : Nat) : alA2 T J 108 q = J 108 q := by unfold alA2; rw [mm_u_o _ _ _ _ (by omega)]; exact alA1_108 T hT J q

theorem alA3_108 (T : Nat) (hT : 118 ≤ T) (J : pI) (q : Nat) : alA3 T J 108 q = J 108 q := by unfold alA3; rw [mm_u_o _ _ _ _ (by omega)]; exact alA2_108 T hT J q

theorem alA4_108 (T : Nat) (hT : 118 ≤ T) (J : pI) (q : Nat) : alA4 T J 108 q = J 108 q := by unfold alA4; rw [mm_u_o _ _ _ _ (by omega)]; exact alA3_108 T hT J q

theorem alA5_108 (T : Nat) (hT : 118 ≤ T) (J : pI) (q : Nat) : alA5 T J 108 q = J 108 q := by unfold alA5; rw [mm_u_o _ _ _ _ (by omega)]; exact alA4_108 T hT J q

theorem alA6_108 (T : Nat) (hT : 118 ≤ T) (J : pI) (q : Nat) : alA6 T J 108 q = J 108 q := by unfold alA6; rw [mm_u_o _ _ _ _ (by omega)]; exact alA5_108 T hT J q

theorem alA7_108 (T : Nat) (hT : 118 ≤ T) (J : pI) (q : Nat) : alA7 T J 108 q = J 108 q := by unfold alA7; rw [mm_u_o _ _ _ _ (by omega)]; exact alA6_108 T hT J q

theorem alA8_108 (T : Nat) (hT : 118 ≤ T) (J : pI) (q : Nat) : alA8 T J 108 q = J 108 q := by unfold alA8; rw [mm_u_o _ _ _ _ (by omega)]; exact alA7_108 T hT J q

theorem alA9_108 (T : Nat) (hT : 118 ≤ T) (J : pI) (q : Nat) : alA9 T J 108 q = J 108 q := by unfold alA9; rw [mm_u_o _ _ _ _ (by omega)]; exact alA8_108 T hT J q

theorem alB_T (T : Nat) (hT : 118 ≤ T) (J : pI) (q : Nat) : alB0 T J T q = J T q := by rw [alB0_i T hT, if_neg (by omega)]

theorem alB1_T (T : Nat) (hT : 118 ≤ T) (J : pI) (q : Nat) : alB1 T J T q = J T q := by unfold alB1; rw [mm_u_o _ _ _ _ (by omega)]; exact alB_T T hT J q

theorem alB2_T (T : Nat) (hT : 118 ≤ T) (J : pI) (q : Nat) : alB2 T J T q = J T q := by unfold alB2; rw [mm_u_o _ _ _ _ (by omega)]; exact alB1_T T hT J q

theorem alB3_T (T : Nat) (hT : 118 ≤ T) (J : pI) (q : Nat) : alB3 T J T q = J T q := by unfold alB3; rw [mm_u_o _ _ _ _ (by omega)]; exact alB2_T T hT J q

theorem alB4_T (T : Nat) (hT : 118 ≤ T) (J : pI) (q : Nat) : alB4 T J T q = J T q := by unfold alB4; rw [mm_u_o _ _ _ _ (by omega)]; exact alB3_T T hT J q

theorem alB5_T (T : Nat) (hT : 118 ≤ T) (J : pI) (q : Nat) : alB5 T J T q = J T q := by unfold alB5; rw [mm_u_o _ _ _ _ (by omega)]; exact alB4_T T hT J q

theorem alB6_T (T : Nat) (hT : 118 ≤ T) (J : pI) (q : Nat) : alB6 T J T q = J T q := by unfold alB6; rw [mm_u_o _ _ _ _ (by omega)]; exact alB5_T T hT J q

theorem alB7_T (T : Nat) (hT : 118 ≤ T) (J : pI) (q : Nat) : alB7 T J T q = J T q := by unfold alB7; rw [mm_u_o _ _ _ _ (by omega)]; exact alB6_T T hT J q

theorem alB8_T (T : Nat) (hT : 118 ≤ T) (J : pI) (q : Nat) : alB8 T J T q = J T q := by unfold alB8; rw [mm_u_o _ _ _ _ (by omega)]; exact alB7_T T hT J q

theorem alB9_T (T : Nat) (hT : 118 ≤ T) (J : pI) (q : Nat) : alB9 T J T q = J T q := by unfold alB9; rw [mm_u_o _ _ _ _ (by omega)]; exact alB8_T T hT J q

theorem alA9_i (T : Nat) (hT : 118 ≤ T) (J : pI) (a b : Nat) : alA9 T J a b = if a = T ∧ b = 72 then J 108 8 else if a = T ∧ b = 71 then J 108 7 else if a = T ∧ b = 70 then J 108 6 else if a = T ∧ b = 69 then J 108 1 else if a = T ∧ b = 68 then J 108 0 else if a = T ∧ b = 67 then J 108 5 else if a = T ∧ b = 66 then J 108 4 else if a = T ∧ b = 65 then J 108 3 else if a = T ∧ b = 64 then J 108 2 else if a = T ∧ b < 64 then J (110 + b / 8) (b % 8) else J a b := by
  rw [alA9, mm_u_i, alA8_108 T hT]
  rw [alA8, mm_u_i, alA7_108 T hT]
  rw [alA7, mm_u_i, alA6_108 T hT]
  rw [alA6, mm_u_i, alA5_108 T hT]
  rw [alA5, mm_u_i, alA4_108 T hT]
  rw [alA4, mm_u_i, alA3_108 T hT]
  rw [alA3, mm_u_i, alA2_108 T hT]
  rw [alA2, mm_u_i, alA1_108 T hT]
  rw [alA1, mm_u_i, alA_108 T hT]
  rw [alA0_i T hT]

theorem alB9_i (T : Nat) (hT : 118 ≤ T) (J : pI) (a b : Nat) : alB9 T J a b = if a = 108 ∧ b = 8 then J T 72 else if a = 108 ∧ b = 7 then J T 71 else if a = 108 ∧ b = 6 then J T 70 else if a = 108 ∧ b = 1 then J T 69 else if a = 108 ∧ b = 0 then J T 68 else if a = 108 ∧ b = 5 then J T 67 else if a = 108 ∧ b = 4 then J T 66 else if a = 108 ∧ b = 3 then J T 65 else if a = 108 ∧ b = 2 then J T 64 else if 110 ≤ a ∧ a ≤ 117 ∧ b < 8 then J T (8 * (a - 110) + b) else J a b := by
  rw [alB9, mm_u_i, alB8_T T hT]
  rw [alB8, mm_u_i, alB7_T T hT]
  rw [alB7, mm_u_i, alB6_T T hT]
  rw [alB6, mm_u_i, alB5_T T hT]
  rw [alB5, mm_u_i, alB4_T T hT]
  rw [alB4, mm_u_i, alB3_T T hT]
  rw [alB3, mm_u_i, alB2_T T hT]
  rw [alB2, mm_u_i, alB1_T T hT]
  rw [alB1, mm_u_i, alB_T T hT]
  rw [alB0_i T hT]

theorem alA9_x (T : Nat) (hT : 118 ≤ T) (J : pI) : alX0 T J (alA9 T J) := by
  refine ⟨fun k hk b => ?_, fun k j h => ?_⟩
  · rw [alA9_i T hT]
    simp only [hk, false_and, if_false]
  · unfold kV
    rcases h with ⟨rfl, h⟩ | ⟨h1, h2, h3⟩
    · have : j = 0 ∨ j = 1 ∨ j = 2 ∨ j = 3 ∨ j = 4 ∨ j = 5 ∨ j = 6 ∨ j = 7 ∨ j = 8 := by omega
      rcases this with rfl | rfl | rfl | rfl | rfl | rfl | rfl | rfl | rfl <;> simp [alA9_i T hT]
    · rw [if_neg (by omega), alA9_i T hT, if_neg (by omega), if_neg (by omega), if_neg (by omega), if_neg (by omega), if_neg (by omega), if_neg (by omega), if_neg (by omega), if_neg (by omega), if_neg (by omega), if_pos (by omega), show 110 + (8 * (k - 110) + j) / 8 = k by omega, show (8 * (k - 110) + j) % 8 = j by omega]
theorem alB9_x (T : Nat) (hT : 118 ≤ T) (J : pI) : alX1 T J (alB9 T J) := by
  refine ⟨fun k j h => ?_, fun k j h => ?_⟩
  · unfold kV
    rcases h with ⟨rfl, h⟩ | ⟨h1, h2, h3⟩
    · have : j = 0 ∨ j = 1 ∨ j = 2 ∨ j = 3 ∨ j = 4 ∨ j = 5 ∨ j = 6 ∨ j = 7 ∨ j = 8 := by omega
      rcases this with rfl | rfl | rfl | rfl | rfl | rfl | rfl | rfl | rfl <;> simp [alB9_i T hT]
    · have h8 : ¬ k = 108 := by omega
      rw [if_neg h8, alB9_i T hT]
      simp only [h8, false_and, if_false]
      rw [if_pos ⟨h1, h2, h3⟩]
  · have h1 : ¬ (k = 108 ∧ j < 9) := fun z => h (Or.inl z)
    have h2 : ¬ (110 ≤ k ∧ k ≤ 117 ∧ j < 8) := fun z => h (Or.inr z)
    rw [alB9_i T hT, if_neg (by omega), if_neg (by omega), if_neg (by omega), if_neg (by omega), if_neg (by omega), if_neg (by omega), if_neg (by omega), if_neg (by omega), if_neg (by omega), if_neg h2]

set_option maxHeartbeats 2000000 in
theorem all_0 (d : Nat) (J : pI) {T : Nat} (hT : 118 ≤ T) (hT80 : mm_sh[T]? = some (100, 80)) : cP (d + 2) 163 [.ref 108, .ref T, .int 0] (mm_sh, mm_R, J, L) (pX none L (fun K => K = alA9 T J)) := by
  refine cP.of_gP (d := d + 1) me_163 ⟨Nat.le_of_ble_eq_true rfl, rfl⟩ ?_
  show gP mm_cs0 _ _ _ _ _ _ [some (.ref _), some (.ref _), some (.int _), none, none] [] _ _
  refine gp_aload_n dX9_all_0 rfl ?_
  refine gp_aload_n dX9_all_1 rfl ?_
  refine gp_gr dX9_all_2 mf_9_32 rfl (by first | rfl | assumption | (simp only [*]; done)) (by first | rfl | assumption | (simp only [*]; done)) ?_
  refine gp_aload_n dX9_all_5 rfl ?_
  refine gp_pu (st' := .int (0) :: _) dX9_all_6 rfl ?_
  refine gp_iload_n dX9_all_7 rfl ?_
  refine gp_callX (kind := 1) (args := [.ref _, .ref _, .ref _, .int _, .int _]) (rest := _) dX9_all_8 (Or.inr (Or.inl ⟨rfl, rfl⟩)) mk_9_207 (by decide) me_162 rfl rfl rfl rfl rfl (mm_rc_of (by first | rfl | assumption | (simp only [*]; done))) (ca_0 _ _ (by decide) hT80 (by omega) (by decide) (by decide)) ?_
  intro K1 hK1
  rw [hK1]
  refine gp_istore_n (ls' := [some (.ref _), some (.ref _), some (.int _), some (.int _), none]) dX9_all_11 rfl (Nat.le_of_ble_eq_true rfl) ?_
  refine gp_aload_n dX9_all_12 rfl ?_
  refine gp_aload_n dX9_all_13 rfl ?_
  refine gp_gr dX9_all_14 mf_9_35 rfl (by first | rfl | assumption | (simp only [*]; done)) (by first | rfl | assumption | (simp only [*]; done)) ?_
  refine gp_aload_n dX9_all_17 rfl ?_
  refine gp_iload_n dX9_all_18 rfl ?_
  refine gp_iload_n dX9_all_19 rfl ?_
  refine gp_callX (kind := 1) (args := [.ref _, .ref _, .ref _, .int _, .int _]) (rest := _) dX9_all_20 (Or.inr (Or.inl ⟨rfl, rfl⟩)) mk_9_207 (by decide) me_162 rfl rfl rfl rfl rfl (mm_rc_of (by first | rfl | assumption | (simp only [*]; done))) (ca_0 _ _ (by decide) hT80 (by omega) (by decide) (by decide)) ?_
  intro K2 hK2
  rw [hK2]
  refine gp_istore_n (ls' := [some (.ref _), some (.ref _), some (.int _), some (.int _), none]) dX9_all_23 rfl (Nat.le_of_ble_eq_true rfl) ?_
  refine gp_aload_n dX9_all_24 rfl ?_
  refine gp_aload_n dX9_all_25 rfl ?_
  refine gp_gr dX9_all_26 mf_9_38 rfl (by first | rfl | assumption | (simp only [*]; done)) (by first | rfl | assumption | (simp only [*]; done)) ?_
  refine gp_aload_n dX9_all_29 rfl ?_
  refine gp_iload_n dX9_all_30 rfl ?_
  refine gp_iload_n dX9_all_31 rfl ?_
  refine gp_callX (kind := 1) (args := [.ref _, .ref _, .ref _, .int _, .int _]) (rest := _) dX9_all_32 (Or.inr (Or.inl ⟨rfl, rfl⟩)) mk_9_207 (by decide) me_162 rfl rfl rfl rfl rfl (mm_rc_of (by first | rfl | assumption | (simp only [*]; done))) (ca_0 _ _ (by decide) hT80 (by omega) (by decide) (by decide)) ?_
  intro K3 hK3
  rw [hK3]
  refine gp_istore_n (ls' := [some (.ref _), some (.ref _), some (.int _), some (.int _), none]) dX9_all_35 rfl (Nat.le_of_ble_eq_true rfl) ?_
  refine gp_aload_n dX9_all_36 rfl ?_
  refine gp_aload_n dX9_all_37 rfl ?_
  refine gp_gr dX9_all_38 mf_9_41 rfl (by first | rfl | assumption | (simp only [*]; done)) (by first | rfl | assumption | (simp only [*]; done)) ?_
  refine gp_aload_n dX9_all_41 rfl ?_
  refine gp_iload_n dX9_all_42 rfl ?_
  refine gp_iload_n dX9_all_43 rfl ?_
  refine gp_callX (kind := 1) (args := [.ref _, .ref _, .ref _, .int _, .int _]) (rest := _) dX9_all_44 (Or.inr (Or.inl ⟨rfl, rfl⟩)) mk_9_207 (by decide) me_162 rfl rfl rfl rfl rfl (mm_rc_of (by first | rfl | assumption | (simp only [*]; done))) (ca_0 _ _ (by decide) hT80 (by omega) (by decide) (by decide)) ?_
  intro K4 hK4
  rw [hK4]
  refine gp_istore_n (ls' := [some (.ref _), some (.ref _), some (.int _), some (.int _), none]) dX9_all_47 rfl (Nat.le_of_ble_eq_true rfl) ?_
  refine gp_aload_n dX9_all_48 rfl ?_
  refine gp_aload_n dX9_all_49 rfl ?_
  refine gp_gr dX9_all_50 mf_9_44 rfl (by first | rfl | assumption | (simp only [*]; done)) (by first | rfl | assumption | (simp only [*]; done)) ?_
  refine gp_aload_n dX9_all_53 rfl ?_
  refine gp_iload_n dX9_all_54 rfl ?_
  refine gp_iload_n dX9_all_55 rfl ?_
  refine gp_callX (kind := 1) (args := [.ref _, .ref _, .ref _, .int _, .int _]) (rest := _) dX9_all_56 (Or.inr (Or.inl ⟨rfl, rfl⟩)) mk_9_207 (by decide) me_162 rfl rfl rfl rfl rfl (mm_rc_of (by first | rfl | assumption | (simp only [*]; done))) (ca_0 _ _ (by decide) hT80 (by omega) (by decide) (by decide)) ?_
  intro K5 hK5
  rw [hK5]
  refine gp_istore_n (ls' := [some (.ref _), some (.ref _), some (.int _), some (.int _), none]) dX9_all_59 rfl (Nat.le_of_ble_eq_true rfl) ?_
  refine gp_aload_n dX9_all_60 rfl ?_
  refine gp_aload_n dX9_all_61 rfl ?_
  refine gp_gr dX9_all_62 mf_9_47 rfl (by first | rfl | assumption | (simp only [*]; done)) (by first | rfl | assumption | (simp only [*]; done)) ?_
  refine gp_aload_n dX9_all_65 rfl ?_
  refine gp_iload_n dX9_all_66 rfl ?_
  refine gp_iload_n dX9_all_67 rfl ?_
  refine gp_callX (kind := 1) (args := [.ref _, .ref _, .ref _, .int _, .int _]) (rest := _) dX9_all_68 (Or.inr (Or.inl ⟨rfl, rfl⟩)) mk_9_207 (by decide) me_162 rfl rfl rfl rfl rfl (mm_rc_of (by first | rfl | assumption | (simp only [*]; done))) (ca_0 _ _ (by decide) hT80 (by omega) (by decide) (by decide)) ?_
  intro K6 hK6
  rw [hK6]
  refine gp_istore_n (ls' := [some (.ref _), some (.ref _), some (.int _), some (.int _), none]) dX9_all_71 rfl (Nat.le_of_ble_eq_true rfl) ?_
  refine gp_aload_n dX9_all_72 rfl ?_
  refine gp_aload_n dX9_all_73 rfl ?_
  refine gp_gr dX9_all_74 mf_9_50 rfl (by first | rfl | assumption | (simp only [*]; done)) (by first | rfl | assumption | (simp only [*]; done)) ?_
  refine gp_aload_n dX9_all_77 rfl ?_
  refine gp_iload_n dX9_all_78 rfl ?_
  refine gp_iload_n dX9_all_79 rfl ?_
  refine gp_callX (kind := 1) (args := [.ref _, .ref _, .ref _, .int _, .int _]) (rest := _) dX9_all_80 (Or.inr (Or.inl ⟨rfl, rfl⟩)) mk_9_207 (by decide) me_162 rfl rfl rfl rfl rfl (mm_rc_of (by first | rfl | assumption | (simp only [*]; done))) (ca_0 _ _ (by decide) hT80 (by omega) (by decide) (by decide)) ?_
  intro K7 hK7
  rw [hK7]
  refine gp_istore_n (ls' := [some (.ref _), some (.ref _), some (.int _), some (.int _), none]) dX9_all_83 rfl (Nat.le_of_ble_eq_true rfl) ?_
  refine gp_aload_n dX9_all_84 rfl ?_
  refine gp_aload_n dX9_all_85 rfl ?_
  refine gp_gr dX9_all_86 mf_9_53 rfl (by first | rfl | assumption | (simp only [*]; done)) (by first | rfl | assumption | (simp only [*]; done)) ?_
  refine gp_aload_n dX9_all_89 rfl ?_
  refine gp_iload_n dX9_all_90 rfl ?_
  refine gp_iload_n dX9_all_91 rfl ?_
  refine gp_callX (kind := 1) (args := [.ref _, .ref _, .ref _, .int _, .int _]) (rest := _) dX9_all_92 (Or.inr (Or.inl ⟨rfl, rfl⟩)) mk_9_207 (by decide) me_162 rfl rfl rfl rfl rfl (mm_rc_of (by first | rfl | assumption | (simp only [*]; done))) (ca_0 _ _ (by decide) hT80 (by omega) (by decide) (by decide)) ?_
  intro K8 hK8
  rw [hK8]
  refine gp_istore_n (ls' := [some (.ref _), some (.ref _), some (.int _), some (.int _), none]) dX9_all_95 rfl (Nat.le_of_ble_eq_true rfl) ?_
  refine gp_pu (st' := .int (0) :: _) dX9_all_96 rfl ?_
  refine gp_istore (ls' := [some (.ref _), some (.ref _), some (.int _), some (.int _), some (.int _)]) dX9_all_97 rfl (Nat.le_of_ble_eq_true rfl) ?_
  refine gp_iload dX9_all_99 rfl ?_
  refine gp_pu (st' := .int (4) :: _) dX9_all_101 rfl ?_
  refine gp_icc (t := 142) dX9_all_102 (by decide) c2_ge (fun h1 => ?_) (fun h1 => ?_)
  · exact absurd h1 (by decide)
  · have h1' := Int32.not_le.mp h1
    refine gp_iload_n dX9_all_105 rfl ?_
    refine gp_ifc (t := 124) dX9_all_106 (by decide) c1_eq (fun h2 => ?_) (fun h2 => ?_)
    · refine gp_aload_n dX9_all_124 rfl ?_
      refine gp_iload_n dX9_all_125 rfl ?_
      refine gp_iload dX9_all_126 rfl ?_
      refine gp_pu (st' := .int _ :: _) dX9_all_128 rfl ?_
      refine gp_aload_n dX9_all_129 rfl ?_
      refine gp_iload dX9_all_130 rfl ?_
      refine gp_callX (kind := 1) (args := [.ref _, .int _]) (rest := _) dX9_all_132 (Or.inr (Or.inl ⟨rfl, rfl⟩)) mk_9_163 (by decide) me_151 rfl rfl rfl rfl rfl (mm_rc_of (by first | rfl | assumption | (simp only [*]; done))) (to_0 _ _) ?_
      intro K9 hK9
      rw [hK9]
      refine gp_ias dX9_all_135 (by first | exact hT80 | rfl | assumption) (by decide) ?_
      refine gp_iinc (v := (1)) (ls' := [some (.ref _), some (.ref _), some (.int _), some (.int _), some (.int _)]) dX9_all_136 rfl (by decide) rfl ?_
      refine gp_goto (t := 99) dX9_all_139 (by decide) ?_
      refine gp_iload dX9_all_99 rfl ?_
      refine gp_pu (st' := .int (4) :: _) dX9_all_101 rfl ?_
      refine gp_icc (t := 142) dX9_all_102 (by decide) c2_ge (fun h3 => ?_) (fun h3 => ?_)
      · exact absurd h3 (by decide)
      · have h3' := Int32.not_le.mp h3
        refine gp_iload_n dX9_all_105 rfl ?_
        refine gp_ifc (t := 124) dX9_all_106 (by decide) c1_eq (fun h4 => ?_) (fun h4 => ?_)
        · refine gp_aload_n dX9_all_124 rfl ?_
          refine gp_iload_n dX9_all_125 rfl ?_
          refine gp_iload dX9_all_126 rfl ?_
          refine gp_pu (st' := .int _ :: _) dX9_all_128 rfl ?_
          refine gp_aload_n dX9_all_129 rfl ?_
          refine gp_iload dX9_all_130 rfl ?_
          refine gp_callX (kind := 1) (args := [.ref _, .int _]) (rest := _) dX9_all_132 (Or.inr (Or.inl ⟨rfl, rfl⟩)) mk_9_163 (by decide) me_151 rfl rfl rfl rfl rfl (mm_rc_of (by first | rfl | assumption | (simp only [*]; done))) (to_1 _ _) ?_
          intro K10 hK10
          rw [hK10]
          refine gp_ias dX9_all_135 (by first | exact hT80 | rfl | assumption) (by decide) ?_
          refine gp_iinc (v := (1)) (ls' := [some (.ref _), some (.ref _), some (.int _), some (.int _), some (.int _)]) dX9_all_136 rfl (by decide) rfl ?_
          refine gp_goto (t := 99) dX9_all_139 (by decide) ?_
          refine gp_iload dX9_all_99 rfl ?_
          refine gp_pu (st' := .int (4) :: _) dX9_all_101 rfl ?_
          refine gp_icc (t := 142) dX9_all_102 (by decide) c2_ge (fun h5 => ?_) (fun h5 => ?_)
          · exact absurd h5 (by decide)
          · have h5' := Int32.not_le.mp h5
            refine gp_iload_n dX9_all_105 rfl ?_
            refine gp_ifc (t := 124) dX9_all_106 (by decide) c1_eq (fun h6 => ?_) (fun h6 => ?_)
            · refine gp_aload_n dX9_all_124 rfl ?_
              refine gp_iload_n dX9_all_125 rfl ?_
              refine gp_iload dX9_all_126 rfl ?_
              refine gp_pu (st' := .int _ :: _) dX9_all_128 rfl ?_
              refine gp_aload_n dX9_all_129 rfl ?_
              refine gp_iload dX9_all_130 rfl ?_
              refine gp_callX (kind := 1) (args := [.ref _, .int _]) (rest := _) dX9_all_132 (Or.inr (Or.inl ⟨rfl, rfl⟩)) mk_9_163 (by decide) me_151 rfl rfl rfl rfl rfl (mm_rc_of (by first | rfl | assumption | (simp only [*]; done))) (to_2 _ _) ?_
              intro K11 hK11
              rw [hK11]
              refine gp_ias dX9_all_135 (by first | exact hT80 | rfl | assumption) (by decide) ?_
              refine gp_iinc (v := (1)) (ls' := [some (.ref _), some (.ref _), some (.int _), some (.int _), some (.int _)]) dX9_all_136 rfl (by decide) rfl ?_
              refine gp_goto (t := 99) dX9_all_139 (by decide) ?_
              refine gp_iload dX9_all_99 rfl ?_
              refine gp_pu (st' := .int (4) :: _) dX9_all_101 rfl ?_
              refine gp_icc (t := 142) dX9_all_102 (by decide) c2_ge (fun h7 => ?_) (fun h7 => ?_)
              · exact absurd h7 (by decide)
              · have h7' := Int32.not_le.mp h7
                refine gp_iload_n dX9_all_105 rfl ?_
                refine gp_ifc (t := 124) dX9_all_106 (by decide) c1_eq (fun h8 => ?_) (fun h8 => ?_)
                · refine gp_aload_n dX9_all_124 rfl ?_
                  refine gp_iload_n dX9_all_125 rfl ?_
                  refine gp_iload dX9_all_126 rfl ?_
                  refine gp_pu (st' := .int _ :: _) dX9_all_128 rfl ?_
                  refine gp_aload_n dX9_all_129 rfl ?_
                  refine gp_iload dX9_all_130 rfl ?_
                  refine gp_callX (kind := 1) (args := [.ref _, .int _]) (rest := _) dX9_all_132 (Or.inr (Or.inl ⟨rfl, rfl⟩)) mk_9_163 (by decide) me_151 rfl rfl rfl rfl rfl (mm_rc_of (by first | rfl | assumption | (simp only [*]; done))) (to_3 _ _) ?_
                  intro K12 hK12
                  rw [hK12]
                  refine gp_ias dX9_all_135 (by first | exact hT80 | rfl | assumption) (by decide) ?_
                  refine gp_iinc (v := (1)) (ls' := [some (.ref _), some (.ref _), some (.int _), some (.int _), some (.int _)]) dX9_all_136 rfl (by decide) rfl ?_
                  refine gp_goto (t := 99) dX9_all_139 (by decide) ?_
                  refine gp_iload dX9_all_99 rfl ?_
                  refine gp_pu (st' := .int (4) :: _) dX9_all_101 rfl ?_
                  refine gp_icc (t := 142) dX9_all_102 (by decide) c2_ge (fun h9 => ?_) (fun h9 => ?_)
                  · have h9' := Int32.not_lt.mpr h9
                    refine gp_iinc (v := (4)) (ls' := [some (.ref _), some (.ref _), some (.int _), some (.int _), some (.int _)]) dX9_all_142 rfl (by decide) rfl ?_
                    refine gp_iload_n dX9_all_145 rfl ?_
                    refine gp_ifc (t := 195) dX9_all_146 (by decide) c1_eq (fun h10 => ?_) (fun h10 => ?_)
                    · refine gp_aload_n dX9_all_195 rfl ?_
                      refine gp_iload_n dX9_all_196 rfl ?_
                      refine gp_aload_n dX9_all_197 rfl ?_
                      refine gp_giv dX9_all_198 mf_9_117 (by decide) (by first | rfl | assumption | (simp only [*]; done)) (by first | exact rfl) ?_
                      refine gp_ias dX9_all_201 (by first | exact hT80 | rfl | assumption) (by decide) ?_
                      refine gp_aload_n dX9_all_202 rfl ?_
                      refine gp_iload_n dX9_all_203 rfl ?_
                      refine gp_pu (st' := .int (1) :: _) dX9_all_204 rfl ?_
                      refine gp_pu (st' := .int _ :: _) dX9_all_205 rfl ?_
                      refine gp_aload_n dX9_all_206 rfl ?_
                      refine gp_giv dX9_all_207 mf_9_120 (by decide) (by first | rfl | assumption | (simp only [*]; done)) (by first | exact rfl) ?_
                      refine gp_ias dX9_all_210 (by first | exact hT80 | rfl | assumption) (by decide) ?_
                      refine gp_aload_n dX9_all_211 rfl ?_
                      refine gp_iload_n dX9_all_212 rfl ?_
                      refine gp_pu (st' := .int (2) :: _) dX9_all_213 rfl ?_
                      refine gp_pu (st' := .int _ :: _) dX9_all_214 rfl ?_
                      refine gp_aload_n dX9_all_215 rfl ?_
                      refine gp_giv dX9_all_216 mf_9_170 (by decide) (by first | rfl | assumption | (simp only [*]; done)) (by first | exact rfl) ?_
                      refine gp_ias dX9_all_219 (by first | exact hT80 | rfl | assumption) (by decide) ?_
                      refine gp_aload_n dX9_all_220 rfl ?_
                      refine gp_iload_n dX9_all_221 rfl ?_
                      refine gp_pu (st' := .int (3) :: _) dX9_all_222 rfl ?_
                      refine gp_pu (st' := .int _ :: _) dX9_all_223 rfl ?_
                      refine gp_aload_n dX9_all_224 rfl ?_
                      refine gp_giv dX9_all_225 mf_9_211 (by decide) (by first | rfl | assumption | (simp only [*]; done)) (by first | exact rfl) ?_
                      refine gp_ias dX9_all_228 (by first | exact hT80 | rfl | assumption) (by decide) ?_
                      refine gp_aload_n dX9_all_229 rfl ?_
                      refine gp_iload_n dX9_all_230 rfl ?_
                      refine gp_pu (st' := .int (4) :: _) dX9_all_231 rfl ?_
                      refine gp_pu (st' := .int _ :: _) dX9_all_232 rfl ?_
                      refine gp_aload_n dX9_all_233 rfl ?_
                      refine gp_giv dX9_all_234 mf_9_22 (by decide) (by first | rfl | assumption | (simp only [*]; done)) (by first | exact rfl) ?_
                      refine gp_ias dX9_all_237 (by first | exact hT80 | rfl | assumption) (by decide) ?_
                      refine gp_vret dX9_all_238 rfl ?_
                      exact pX.mk rfl rfl
                    · exact absurd (by decide) h10
                  · exact absurd (by decide) h9
                · exact absurd (by decide) h8
            · exact absurd (by decide) h6
        · exact absurd (by decide) h4
    · exact absurd (by decide) h2

set_option maxHeartbeats 2000000 in
theorem all_1 (d : Nat) (J : pI) {T : Nat} (hT : 118 ≤ T) (hT80 : mm_sh[T]? = some (100, 80)) : cP (d + 2) 163 [.ref 108, .ref T, .int 1] (mm_sh, mm_R, J, L) (pX none L (fun K => K = alB9 T J)) := by
  refine cP.of_gP (d := d + 1) me_163 ⟨Nat.le_of_ble_eq_true rfl, rfl⟩ ?_
  show gP mm_cs0 _ _ _ _ _ _ [some (.ref _), some (.ref _), some (.int _), none, none] [] _ _
  refine gp_aload_n dX9_all_0 rfl ?_
  refine gp_aload_n dX9_all_1 rfl ?_
  refine gp_gr dX9_all_2 mf_9_32 rfl (by first | rfl | assumption | (simp only [*]; done)) (by first | rfl | assumption | (simp only [*]; done)) ?_
  refine gp_aload_n dX9_all_5 rfl ?_
  refine gp_pu (st' := .int (0) :: _) dX9_all_6 rfl ?_
  refine gp_iload_n dX9_all_7 rfl ?_
  refine gp_callX (kind := 1) (args := [.ref _, .ref _, .ref _, .int _, .int _]) (rest := _) dX9_all_8 (Or.inr (Or.inl ⟨rfl, rfl⟩)) mk_9_207 (by decide) me_162 rfl rfl rfl rfl rfl (mm_rc_of (by first | rfl | assumption | (simp only [*]; done))) (ca_1 _ _ (by decide) hT80 (by omega) (by decide) (by decide)) ?_
  intro K1 hK1
  rw [hK1]
  refine gp_istore_n (ls' := [some (.ref _), some (.ref _), some (.int _), some (.int _), none]) dX9_all_11 rfl (Nat.le_of_ble_eq_true rfl) ?_
  refine gp_aload_n dX9_all_12 rfl ?_
  refine gp_aload_n dX9_all_13 rfl ?_
  refine gp_gr dX9_all_14 mf_9_35 rfl (by first | rfl | assumption | (simp only [*]; done)) (by first | rfl | assumption | (simp only [*]; done)) ?_
  refine gp_aload_n dX9_all_17 rfl ?_
  refine gp_iload_n dX9_all_18 rfl ?_
  refine gp_iload_n dX9_all_19 rfl ?_
  refine gp_callX (kind := 1) (args := [.ref _, .ref _, .ref _, .int _, .int _]) (rest := _) dX9_all_20 (Or.inr (Or.inl ⟨rfl, rfl⟩)) mk_9_207 (by decide) me_162 rfl rfl rfl rfl rfl (mm_rc_of (by first | rfl | assumption | (simp only [*]; done))) (ca_1 _ _ (by decide) hT80 (by omega) (by decide) (by decide)) ?_
  intro K2 hK2
  rw [hK2]
  refine gp_istore_n (ls' := [some (.ref _), some (.ref _), some (.int _), some (.int _), none]) dX9_all_23 rfl (Nat.le_of_ble_eq_true rfl) ?_
  refine gp_aload_n dX9_all_24 rfl ?_
  refine gp_aload_n dX9_all_25 rfl ?_
  refine gp_gr dX9_all_26 mf_9_38 rfl (by first | rfl | assumption | (simp only [*]; done)) (by first | rfl | assumption | (simp only [*]; done)) ?_
  refine gp_aload_n dX9_all_29 rfl ?_
  refine gp_iload_n dX9_all_30 rfl ?_
  refine gp_iload_n dX9_all_31 rfl ?_
  refine gp_callX (kind := 1) (args := [.ref _, .ref _, .ref _, .int _, .int _]) (rest := _) dX9_all_32 (Or.inr (Or.inl ⟨rfl, rfl⟩)) mk_9_207 (by decide) me_162 rfl rfl rfl rfl rfl (mm_rc_of (by first | rfl | assumption | (simp only [*]; done))) (ca_1 _ _ (by decide) hT80 (by omega) (by decide) (by decide)) ?_
  intro K3 hK3
  rw [hK3]
  refine gp_istore_n (ls' := [some (.ref _), some (.ref _), some (.int _), some (.int _), none]) dX9_all_35 rfl (Nat.le_of_ble_eq_true rfl) ?_
  refine gp_aload_n dX9_all_36 rfl ?_
  refine gp_aload_n dX9_all_37 rfl ?_
  refine gp_gr dX9_all_38 mf_9_41 rfl (by first | rfl | assumption | (simp only [*]; done)) (by first | rfl | assumption | (simp only [*]; done)) ?_
  refine gp_aload_n dX9_all_41 rfl ?_
  refine gp_iload_n dX9_all_42 rfl ?_
  refine gp_iload_n dX9_all_43 rfl ?_
  refine gp_callX (kind := 1) (args := [.ref _, .ref _, .ref _, .int _, .int _]) (rest := _) dX9_all_44 (Or.inr (Or.inl ⟨rfl, rfl⟩)) mk_9_207 (by decide) me_162 rfl rfl rfl rfl rfl (mm_rc_of (by first | rfl | assumption | (simp only [*]; done))) (ca_1 _ _ (by decide) hT80 (by omega) (by decide) (by decide)) ?_
  intro K4 hK4
  rw [hK4]
  refine gp_istore_n (ls' := [some (.ref _), some (.ref _), some (.int _), some (.int _), none]) dX9_all_47 rfl (Nat.le_of_ble_eq_true rfl) ?_
  refine gp_aload_n dX9_all_48 rfl ?_
  refine gp_aload_n dX9_all_49 rfl ?_
  refine gp_gr dX9_all_50 mf_9_44 rfl (by first | rfl | assumption | (simp only [*]; done)) (by first | rfl | assumption | (simp only [*]; done)) ?_
  refine gp_aload_n dX9_all_53 rfl ?_
  refine gp_iload_n dX9_all_54 rfl ?_
  refine gp_iload_n dX9_all_55 rfl ?_
  refine gp_callX (kind := 1) (args := [.ref _, .ref _, .ref _, .int _, .int _]) (rest := _) dX9_all_56 (Or.inr (Or.inl ⟨rfl, rfl⟩)) mk_9_207 (by decide) me_162 rfl rfl rfl rfl rfl (mm_rc_of (by first | rfl | assumption | (simp only [*]; done))) (ca_1 _ _ (by decide) hT80 (by omega) (by decide) (by decide)) ?_
  intro K5 hK5
  rw [hK5]
  refine gp_istore_n (ls' := [some (.ref _), some (.ref _), some (.int _), some (.int _), none]) dX9_all_59 rfl (Nat.le_of_ble_eq_true rfl) ?_
  refine gp_aload_n dX9_all_60 rfl ?_
  refine gp_aload_n dX9_all_61 rfl ?_
  refine gp_gr dX9_all_62 mf_9_47 rfl (by first | rfl | assumption | (simp only [*]; done)) (by first | rfl | assumption | (simp only [*]; done)) ?_
  refine gp_aload_n dX9_all_65 rfl ?_
  refine gp_iload_n dX9_all_66 rfl ?_
  refine gp_iload_n dX9_all_67 rfl ?_
  refine gp_callX (kind := 1) (args := [.ref _, .ref _, .ref _, .int _, .int _]) (rest := _) dX9_all_68 (Or.inr (Or.inl ⟨rfl, rfl⟩)) mk_9_207 (by decide) me_162 rfl rfl rfl rfl rfl (mm_rc_of (by first | rfl | assumption | (simp only [*]; done))) (ca_1 _ _ (by decide) hT80 (by omega) (by decide) (by decide)) ?_
  intro K6 hK6
  rw [hK6]
  refine gp_istore_n (ls' := [some (.ref _), some (.ref _), some (.int _), some (.int _), none]) dX9_all_71 rfl (Nat.le_of_ble_eq_true rfl) ?_
  refine gp_aload_n dX9_all_72 rfl ?_
  refine gp_aload_n dX9_all_73 rfl ?_
  refine gp_gr dX9_all_74 mf_9_50 rfl (by first | rfl | assumption | (simp only [*]; done)) (by first | rfl | assumption | (simp only [*]; done)) ?_
  refine gp_aload_n dX9_all_77 rfl ?_
  refine gp_iload_n dX9_all_78 rfl ?_
  refine gp_iload_n dX9_all_79 rfl ?_
  refine gp_callX (kind := 1) (args := [.ref _, .ref _, .ref _, .int _, .int _]) (rest := _) dX9_all_80 (Or.inr (Or.inl ⟨rfl, rfl⟩)) mk_9_207 (by decide) me_162 rfl rfl rfl rfl rfl (mm_rc_of (by first | rfl | assumption | (simp only [*]; done))) (ca_1 _ _ (by decide) hT80 (by omega) (by decide) (by decide)) ?_
  intro K7 hK7
  rw [hK7]
  refine gp_istore_n (ls' := [some (.ref _), some (.ref _), some (.int _), some (.int _), none]) dX9_all_83 rfl (Nat.le_of_ble_eq_true rfl) ?_
  refine gp_aload_n dX9_all_84 rfl ?_
  refine gp_aload_n dX9_all_85 rfl ?_
  refine gp_gr dX9_all_86 mf_9_53 rfl (by first | rfl | assumption | (simp only [*]; done)) (by first | rfl | assumption | (simp only [*]; done)) ?_
  refine gp_aload_n dX9_all_89 rfl ?_
  refine gp_iload_n dX9_all_90 rfl ?_
  refine gp_iload_n dX9_all_91 rfl ?_
  refine gp_callX (kind := 1) (args := [.ref _, .ref _, .ref _, .int _, .int _]) (rest := _) dX9_all_92 (Or.inr (Or.inl ⟨rfl, rfl⟩)) mk_9_207 (by decide) me_162 rfl rfl rfl rfl rfl (mm_rc_of (by first | rfl | assumption | (simp only [*]; done))) (ca_1 _ _ (by decide) hT80 (by omega) (by decide) (by decide)) ?_
  intro K8 hK8
  rw [hK8]
  refine gp_istore_n (ls' := [some (.ref _), some (.ref _), some (.int _), some (.int _), none]) dX9_all_95 rfl (Nat.le_of_ble_eq_true rfl) ?_
  refine gp_pu (st' := .int (0) :: _) dX9_all_96 rfl ?_
  refine gp_istore (ls' := [some (.ref _), some (.ref _), some (.int _), some (.int _), some (.int _)]) dX9_all_97 rfl (Nat.le_of_ble_eq_true rfl) ?_
  refine gp_iload dX9_all_99 rfl ?_
  refine gp_pu (st' := .int (4) :: _) dX9_all_101 rfl ?_
  refine gp_icc (t := 142) dX9_all_102 (by decide) c2_ge (fun h1 => ?_) (fun h1 => ?_)
  · exact absurd h1 (by decide)
  · have h1' := Int32.not_le.mp h1
    refine gp_iload_n dX9_all_105 rfl ?_
    refine gp_ifc (t := 124) dX9_all_106 (by decide) c1_eq (fun h2 => ?_) (fun h2 => ?_)
    · exact absurd h2 (by decide)
    · refine gp_aload_n dX9_all_109 rfl ?_
      refine gp_iload dX9_all_110 rfl ?_
      refine gp_aload_n dX9_all_112 rfl ?_
      refine gp_iload_n dX9_all_113 rfl ?_
      refine gp_iload dX9_all_114 rfl ?_
      refine gp_pu (st' := .int _ :: _) dX9_all_116 rfl ?_
      refine gp_ialv dX9_all_117 (cs_none hT80) (by first | exact hT80 | rfl | assumption) (by decide) (by first | exact rfl) ?_
      refine gp_callX (kind := 1) (args := [.ref _, .int _, .int _]) (rest := _) dX9_all_118 (Or.inr (Or.inl ⟨rfl, rfl⟩)) mk_9_166 (by decide) me_152 rfl rfl rfl rfl rfl (mm_rc_of (by first | rfl | assumption | (simp only [*]; done))) (tl_0 _ _) ?_
      intro K9 hK9
      rw [hK9]
      refine gp_goto (t := 136) dX9_all_121 (by decide) ?_
      refine gp_iinc (v := (1)) (ls' := [some (.ref _), some (.ref _), some (.int _), some (.int _), some (.int _)]) dX9_all_136 rfl (by decide) rfl ?_
      refine gp_goto (t := 99) dX9_all_139 (by decide) ?_
      refine gp_iload dX9_all_99 rfl ?_
      refine gp_pu (st' := .int (4) :: _) dX9_all_101 rfl ?_
      refine gp_icc (t := 142) dX9_all_102 (by decide) c2_ge (fun h3 => ?_) (fun h3 => ?_)
      · exact absurd h3 (by decide)
      · have h3' := Int32.not_le.mp h3
        refine gp_iload_n dX9_all_105 rfl ?_
        refine gp_ifc (t := 124) dX9_all_106 (by decide) c1_eq (fun h4 => ?_) (fun h4 => ?_)
        · exact absurd h4 (by decide)
        · refine gp_aload_n dX9_all_109 rfl ?_
          refine gp_iload dX9_all_110 rfl ?_
          refine gp_aload_n dX9_all_112 rfl ?_
          refine gp_iload_n dX9_all_113 rfl ?_
          refine gp_iload dX9_all_114 rfl ?_
          refine gp_pu (st' := .int _ :: _) dX9_all_116 rfl ?_
          refine gp_ialv dX9_all_117 (cs_none hT80) (by first | exact hT80 | rfl | assumption) (by decide) (by first | exact rfl) ?_
          refine gp_callX (kind := 1) (args := [.ref _, .int _, .int _]) (rest := _) dX9_all_118 (Or.inr (Or.inl ⟨rfl, rfl⟩)) mk_9_166 (by decide) me_152 rfl rfl rfl rfl rfl (mm_rc_of (by first | rfl | assumption | (simp only [*]; done))) (tl_1 _ _) ?_
          intro K10 hK10
          rw [hK10]
          refine gp_goto (t := 136) dX9_all_121 (by decide) ?_
          refine gp_iinc (v := (1)) (ls' := [some (.ref _), some (.ref _), some (.int _), some (.int _), some (.int _)]) dX9_all_136 rfl (by decide) rfl ?_
          refine gp_goto (t := 99) dX9_all_139 (by decide) ?_
          refine gp_iload dX9_all_99 rfl ?_
          refine gp_pu (st' := .int (4) :: _) dX9_all_101 rfl ?_
          refine gp_icc (t := 142) dX9_all_102 (by decide) c2_ge (fun h5 => ?_) (fun h5 => ?_)
          · exact absurd h5 (by decide)
          · have h5' := Int32.not_le.mp h5
            refine gp_iload_n dX9_all_105 rfl ?_
            refine gp_ifc (t := 124) dX9_all_106 (by decide) c1_eq (fun h6 => ?_) (fun h6 => ?_)
            · exact absurd h6 (by decide)
            · refine gp_aload_n dX9_all_109 rfl ?_
              refine gp_iload dX9_all_110 rfl ?_
              refine gp_aload_n dX9_all_112 rfl ?_
              refine gp_iload_n dX9_all_113 rfl ?_
              refine gp_iload dX9_all_114 rfl ?_
              refine gp_pu (st' := .int _ :: _) dX9_all_116 rfl ?_
              refine gp_ialv dX9_all_117 (cs_none hT80) (by first | exact hT80 | rfl | assumption) (by decide) (by first | exact rfl) ?_
              refine gp_callX (kind := 1) (args := [.ref _, .int _, .int _]) (rest := _) dX9_all_118 (Or.inr (Or.inl ⟨rfl, rfl⟩)) mk_9_166 (by decide) me_152 rfl rfl rfl rfl rfl (mm_rc_of (by first | rfl | assumption | (simp only [*]; done))) (tl_2 _ _) ?_
              intro K11 hK11
              rw [hK11]
              refine gp_goto (t := 136) dX9_all_121 (by decide) ?_
              refine gp_iinc (v := (1)) (ls' := [some (.ref _), some (.ref _), some (.int _), some (.int _), some (.int _)]) dX9_all_136 rfl (by decide) rfl ?_
              refine gp_goto (t := 99) dX9_all_139 (by decide) ?_
              refine gp_iload dX9_all_99 rfl ?_
              refine gp_pu (st' := .int (4) :: _) dX9_all_101 rfl ?_
              refine gp_icc (t := 142) dX9_all_102 (by decide) c2_ge (fun h7 => ?_) (fun h7 => ?_)
              · exact absurd h7 (by decide)
              · have h7' := Int32.not_le.mp h7
                refine gp_iload_n dX9_all_105 rfl ?_
                refine gp_ifc (t := 124) dX9_all_106 (by decide) c1_eq (fun h8 => ?_) (fun h8 => ?_)
                · exact absurd h8 (by decide)
                · refine gp_aload_n dX9_all_109 rfl ?_
                  refine gp_iload dX9_all_110 rfl ?_
                  refine gp_aload_n dX9_all_112 rfl ?_
                  refine gp_iload_n dX9_all_113 rfl ?_
                  refine gp_iload dX9_all_114 rfl ?_
                  refine gp_pu (st' := .int _ :: _) dX9_all_116 rfl ?_
                  refine gp_ialv dX9_all_117 (cs_none hT80) (by first | exact hT80 | rfl | assumption) (by decide) (by first | exact rfl) ?_
                  refine gp_callX (kind := 1) (args := [.ref _, .int _, .int _]) (rest := _) dX9_all_118 (Or.inr (Or.inl ⟨rfl, rfl⟩)) mk_9_166 (by decide) me_152 rfl rfl rfl rfl rfl (mm_rc_of (by first | rfl | assumption | (simp only [*]; done))) (tl_3 _ _) ?_
                  intro K12 hK12
                  rw [hK12]
                  refine gp_goto (t := 136) dX9_all_121 (by decide) ?_
                  refine gp_iinc (v := (1)) (ls' := [some (.ref _), some (.ref _), some (.int _), some (.int _), some (.int _)]) dX9_all_136 rfl (by decide) rfl ?_
                  refine gp_goto (t := 99) dX9_all_139 (by decide) ?_
                  refine gp_iload dX9_all_99 rfl ?_
                  refine gp_pu (st' := .int (4) :: _) dX9_all_101 rfl ?_
                  refine gp_icc (t := 142) dX9_all_102 (by decide) c2_ge (fun h9 => ?_) (fun h9 => ?_)
                  · have h9' := Int32.not_lt.mpr h9
                    refine gp_iinc (v := (4)) (ls' := [some (.ref _), some (.ref _), some (.int _), some (.int _), some (.int _)]) dX9_all_142 rfl (by decide) rfl ?_
                    refine gp_iload_n dX9_all_145 rfl ?_
                    refine gp_ifc (t := 195) dX9_all_146 (by decide) c1_eq (fun h10 => ?_) (fun h10 => ?_)
                    · exact absurd h10 (by decide)
                    · refine gp_aload_n dX9_all_149 rfl ?_
                      refine gp_aload_n dX9_all_150 rfl ?_
                      refine gp_iload_n dX9_all_151 rfl ?_
                      refine gp_ialv dX9_all_152 (cs_none hT80) (by first | exact hT80 | rfl | assumption) (by decide) (by first | exact rfl) ?_
                      refine gp_pi dX9_all_153 mf_9_117 rfl rfl (by first | rfl | assumption | (simp only [*]; done)) ?_
                      refine gp_aload_n dX9_all_156 rfl ?_
                      refine gp_aload_n dX9_all_157 rfl ?_
                      refine gp_iload_n dX9_all_158 rfl ?_
                      refine gp_pu (st' := .int (1) :: _) dX9_all_159 rfl ?_
                      refine gp_pu (st' := .int _ :: _) dX9_all_160 rfl ?_
                      refine gp_ialv dX9_all_161 (cs_none hT80) (by first | exact hT80 | rfl | assumption) (by decide) (by first | exact rfl) ?_
                      refine gp_pi dX9_all_162 mf_9_120 rfl rfl (by first | rfl | assumption | (simp only [*]; done)) ?_
                      refine gp_aload_n dX9_all_165 rfl ?_
                      refine gp_aload_n dX9_all_166 rfl ?_
                      refine gp_iload_n dX9_all_167 rfl ?_
                      refine gp_pu (st' := .int (2) :: _) dX9_all_168 rfl ?_
                      refine gp_pu (st' := .int _ :: _) dX9_all_169 rfl ?_
                      refine gp_ialv dX9_all_170 (cs_none hT80) (by first | exact hT80 | rfl | assumption) (by decide) (by first | exact rfl) ?_
                      refine gp_pi dX9_all_171 mf_9_170 rfl rfl (by first | rfl | assumption | (simp only [*]; done)) ?_
                      refine gp_aload_n dX9_all_174 rfl ?_
                      refine gp_aload_n dX9_all_175 rfl ?_
                      refine gp_iload_n dX9_all_176 rfl ?_
                      refine gp_pu (st' := .int (3) :: _) dX9_all_177 rfl ?_
                      refine gp_pu (st' := .int _ :: _) dX9_all_178 rfl ?_
                      refine gp_ialv dX9_all_179 (cs_none hT80) (by first | exact hT80 | rfl | assumption) (by decide) (by first | exact rfl) ?_
                      refine gp_pi dX9_all_180 mf_9_211 rfl rfl (by first | rfl | assumption | (simp only [*]; done)) ?_
                      refine gp_aload_n dX9_all_183 rfl ?_
                      refine gp_aload_n dX9_all_184 rfl ?_
                      refine gp_iload_n dX9_all_185 rfl ?_
                      refine gp_pu (st' := .int (4) :: _) dX9_all_186 rfl ?_
                      refine gp_pu (st' := .int _ :: _) dX9_all_187 rfl ?_
                      refine gp_ialv dX9_all_188 (cs_none hT80) (by first | exact hT80 | rfl | assumption) (by decide) (by first | exact rfl) ?_
                      refine gp_pi dX9_all_189 mf_9_22 rfl rfl (by first | rfl | assumption | (simp only [*]; done)) ?_
                      refine gp_goto (t := 238) dX9_all_192 (by decide) ?_
                      refine gp_vret dX9_all_238 rfl ?_
                      exact pX.mk rfl rfl
                  · exact absurd (by decide) h9
end P86
