/-! PUBLIC METHODS: ask, sack, child -/
section P66
variable {I C J : pI} {L : pL} {N S : Nat}

def askd (w x : Int32) : Prop := ¬ x < (if w < 2 then 1 else 0) ∧ ¬ (if w = 0 then 200 else if w = 1 then 20 else if w = 2 then 9 else 60) < x
theorem ask_eq {w x : Int32} (h : 0 ≤ w ∧ w < 4) : askd w x ↔ ¬ x < ([1, 1, 0, 0] : List Int32).getD w.toNatClampNeg 0 ∧ ¬ ([200, 20, 9, 60] : List Int32).getD w.toNatClampNeg 0 < x := by
  rcases sb_3 (x := w) (Int32.not_lt.mpr h.1) (by rw [Int32.not_lt]; have := h.2; rw [ti_lt, show (4 : Int32).toInt = 4 from by decide] at this; rw [ti_le, show (3 : Int32).toInt = 3 from by decide]; omega) with rfl | rfl | rfl | rfl <;> exact Iff.rfl
theorem ask_wi {w x : Int32} (h : 0 ≤ w ∧ w < 4) (h2 : askd w x) : (w = 0 ∧ wi x 1 200) ∨ (w = 1 ∧ wi x 1 20) ∨ (w = 2 ∧ wi x 0 9) ∨ (w = 3 ∧ wi x 0 60) := by
  have h3 := (ask_eq h).mp h2
  rcases sb_3 (x := w) (Int32.not_lt.mpr h.1) (by rw [Int32.not_lt]; have := h.2; rw [ti_lt, show (4 : Int32).toInt = 4 from by decide] at this; rw [ti_le, show (3 : Int32).toInt = 3 from by decide]; omega) with rfl | rfl | rfl | rfl
  · refine Or.inl ⟨rfl, ?_⟩
    obtain ⟨a, b⟩ := h3
    rw [ti_lt] at a b
    exact ⟨Int.not_lt.mp a, Int.not_lt.mp b⟩
  · refine Or.inr (Or.inl ⟨rfl, ?_⟩)
    obtain ⟨a, b⟩ := h3
    rw [ti_lt] at a b
    exact ⟨Int.not_lt.mp a, Int.not_lt.mp b⟩
  · refine Or.inr (Or.inr (Or.inl ⟨rfl, ?_⟩))
    obtain ⟨a, b⟩ := h3
    rw [ti_lt] at a b
    exact ⟨Int.not_lt.mp a, Int.not_lt.mp b⟩
  · refine Or.inr (Or.inr (Or.inr ⟨rfl, ?_⟩))
    obtain ⟨a, b⟩ := h3
    rw [ti_lt] at a b
    exact ⟨Int.not_lt.mp a, Int.not_lt.mp b⟩
noncomputable def w_as (w x : Int32) : Int32 := if 0 ≤ w ∧ w < 4 then (if x < (if w < 2 then 1 else 0) ∨ (if w = 0 then 200 else if w = 1 then 20 else if w = 2 then 9 else 60) < x then -6 else 0) else -6
theorem w_as_n {w x : Int32} (h : ¬ (0 ≤ w ∧ w < 4)) : w_as w x = -6 := if_neg h
theorem w_as_b {w x : Int32} (h : ¬ askd w x) : w_as w x = -6 := by
  unfold w_as
  split
  · rw [if_pos]
    exact Classical.byContradiction fun z => h ⟨fun a => z (Or.inl a), fun a => z (Or.inr a)⟩
  · rfl
theorem w_as_k {w x : Int32} (h : 0 ≤ w ∧ w < 4) (h2 : askd w x) : w_as w x = 0 := by
  unfold w_as
  rw [if_pos h, if_neg]
  rintro (a | a)
  · exact h2.1 a
  · exact h2.2 a
theorem w_as_w (w x : Int32) : w_as w x = 0 ∨ isW (w_as w x) := by unfold w_as; (repeat' split) <;> first | exact Or.inl rfl | (right; unfold isW; decide)
theorem w_as_0 {w x : Int32} (h : w_as w x = 0) : (0 ≤ w ∧ w < 4) ∧ askd w x := by
  by_cases a : 0 ≤ w ∧ w < 4
  · refine ⟨a, Classical.byContradiction fun b => ?_⟩
    rw [w_as_b b] at h; exact absurd h (by decide)
  · rw [w_as_n a] at h; exact absurd h (by decide)
theorem i_47 (w : Int32) : (0 ≤ w ∧ w < 4) ↔ ¬ (w < 0 ∨ 3 < w) := by
  simp only [ti_le, ti_lt, show (0 : Int32).toInt = 0 from by decide, show (3 : Int32).toInt = 3 from by decide, show (4 : Int32).toInt = 4 from by decide]
  omega

noncomputable def bA (w x : Int32) : Int32 := if x < (if w < 2 then 1 else 0) ∨ (if w = 0 then 200 else if w = 1 then 20 else if w = 2 then 9 else 60) < x then 0 else 1
theorem bA_0 {w x : Int32} : bA w x = 0 ↔ ¬ askd w x := by
  unfold bA askd
  by_cases h : x < (if w < 2 then 1 else 0) ∨ (if w = 0 then 200 else if w = 1 then 20 else if w = 2 then 9 else 60) < x
  · rw [if_pos h]
    exact ⟨fun _ z => h.elim z.1 z.2, fun _ => rfl⟩
  · rw [if_neg h]
    exact ⟨fun z => absurd z (by decide), fun z => absurd ⟨fun a => h (Or.inl a), fun a => h (Or.inr a)⟩ z⟩

set_option maxHeartbeats 400000 in
theorem ml_isAsked (d : Nat) (hs : mR I C J) {w x : Int32} : cP (d + 1) 150 [.ref 108, .int w, .int x] (mm_sh, mm_R, J, L) (pX (some (.int (bA w x))) L (mR I C)) := by
  refine cP.of_gP (d := d + 0) me_150 ⟨Nat.le_of_ble_eq_true rfl, rfl⟩ ?_
  show gP mm_cs0 _ _ _ _ _ _ [some (.ref _), some (.int _), some (.int _)] [] _ _
  refine gp_iload_n dX9_isAsked_0 rfl ?_
  refine gp_iload_n dX9_isAsked_1 rfl ?_
  refine gp_pu (st' := .int (2) :: _) dX9_isAsked_2 rfl ?_
  refine gp_icc (t := 10) dX9_isAsked_3 (by decide) c2_ge (fun h1 => ?_) (fun h1 => ?_)
  · have h1' := Int32.not_lt.mpr h1
    (try simp only [Classical.not_not] at h1)
    refine gp_pu (st' := .int (0) :: _) dX9_isAsked_10 rfl ?_
    refine gp_icc (t := 54) dX9_isAsked_11 (by decide) c2_lt (fun h2 => ?_) (fun h2 => ?_)
    · have h2' := Int32.not_le.mpr h2
      (try simp only [Classical.not_not] at h2)
      refine gp_pu (st' := .int (0) :: _) dX9_isAsked_54 rfl ?_
      refine gp_zret dX9_isAsked_55 rfl (by first | exact Or.inl rfl | exact Or.inr rfl | assumption) ?_
      exact pX.mk (congrArg some (congrArg Value.int (by first | (simp [bA, *]; done) | (subst_vars; exfalso; revert h1; decide)))) hs
    · have h2' := Int32.not_lt.mp h2
      (try simp only [Classical.not_not] at h2)
      refine gp_iload_n dX9_isAsked_14 rfl ?_
      refine gp_iload_n dX9_isAsked_15 rfl ?_
      refine gp_ifc (t := 25) dX9_isAsked_16 (by decide) c1_ne (fun h3 => ?_) (fun h3 => ?_)
      · (try simp only [Classical.not_not] at h3)
        refine gp_iload_n dX9_isAsked_25 rfl ?_
        refine gp_pu (st' := .int (1) :: _) dX9_isAsked_26 rfl ?_
        refine gp_icc (t := 35) dX9_isAsked_27 (by decide) c2_ne (fun h4 => ?_) (fun h4 => ?_)
        · (try simp only [Classical.not_not] at h4)
          refine gp_iload_n dX9_isAsked_35 rfl ?_
          refine gp_pu (st' := .int (2) :: _) dX9_isAsked_36 rfl ?_
          refine gp_icc (t := 45) dX9_isAsked_37 (by decide) c2_ne (fun h5 => ?_) (fun h5 => ?_)
          · (try simp only [Classical.not_not] at h5)
            refine gp_pu (st' := .int (60) :: _) dX9_isAsked_45 rfl ?_
            refine gp_icc (t := 54) dX9_isAsked_47 (by decide) c2_gt (fun h6 => ?_) (fun h6 => ?_)
            · have h6' := Int32.not_le.mpr h6
              (try simp only [Classical.not_not] at h6)
              refine gp_pu (st' := .int (0) :: _) dX9_isAsked_54 rfl ?_
              refine gp_zret dX9_isAsked_55 rfl (by first | exact Or.inl rfl | exact Or.inr rfl | assumption) ?_
              exact pX.mk (congrArg some (congrArg Value.int (by first | (simp [bA, *]; done) | (subst_vars; exfalso; revert h1; decide)))) hs
            · have h6' := Int32.not_lt.mp h6
              (try simp only [Classical.not_not] at h6)
              refine gp_pu (st' := .int (1) :: _) dX9_isAsked_50 rfl ?_
              refine gp_goto (t := 55) dX9_isAsked_51 (by decide) ?_
              refine gp_zret dX9_isAsked_55 rfl (by first | exact Or.inl rfl | exact Or.inr rfl | assumption) ?_
              exact pX.mk (congrArg some (congrArg Value.int (by first | (simp [bA, *]; done) | (subst_vars; exfalso; revert h1; decide)))) hs
          · (try simp only [Classical.not_not] at h5)
            refine gp_pu (st' := .int (9) :: _) dX9_isAsked_40 rfl ?_
            refine gp_goto (t := 47) dX9_isAsked_42 (by decide) ?_
            refine gp_icc (t := 54) dX9_isAsked_47 (by decide) c2_gt (fun h7 => ?_) (fun h7 => ?_)
            · have h7' := Int32.not_le.mpr h7
              (try simp only [Classical.not_not] at h7)
              refine gp_pu (st' := .int (0) :: _) dX9_isAsked_54 rfl ?_
              refine gp_zret dX9_isAsked_55 rfl (by first | exact Or.inl rfl | exact Or.inr rfl | assumption) ?_
              exact pX.mk (congrArg some (congrArg Value.int (by first | (simp [bA, *]; done) | (subst_vars; exfalso; revert h1; decide)))) hs
            · have h7' := Int32.not_lt.mp h7
              (try simp only [Classical.not_not] at h7)
              refine gp_pu (st' := .int (1) :: _) dX9_isAsked_50 rfl ?_
              refine gp_goto (t := 55) dX9_isAsked_51 (by decide) ?_
              refine gp_zret dX9_isAsked_55 rfl (by first | exact Or.inl rfl | exact Or.inr rfl | assumption) ?_
              exact pX.mk (congrArg some (congrArg Value.int (by first | (simp [bA, *]; done) | (subst_vars; exfalso; revert h1; decide)))) hs
        · (try simp only [Classical.not_not] at h4)
          refine gp_pu (st' := .int (20) :: _) dX9_isAsked_30 rfl ?_
          refine gp_goto (t := 47) dX9_isAsked_32 (by decide) ?_
          refine gp_icc (t := 54) dX9_isAsked_47 (by decide) c2_gt (fun h8 => ?_) (fun h8 => ?_)
          · have h8' := Int32.not_le.mpr h8
            (try simp only [Classical.not_not] at h8)
            refine gp_pu (st' := .int (0) :: _) dX9_isAsked_54 rfl ?_
            refine gp_zret dX9_isAsked_55 rfl (by first | exact Or.inl rfl | exact Or.inr rfl | assumption) ?_
            exact pX.mk (congrArg some (congrArg Value.int (by first | (simp [bA, *]; done) | (subst_vars; exfalso; revert h1; decide)))) hs
          · have h8' := Int32.not_lt.mp h8
            (try simp only [Classical.not_not] at h8)
            refine gp_pu (st' := .int (1) :: _) dX9_isAsked_50 rfl ?_
            refine gp_goto (t := 55) dX9_isAsked_51 (by decide) ?_
            refine gp_zret dX9_isAsked_55 rfl (by first | exact Or.inl rfl | exact Or.inr rfl | assumption) ?_
            exact pX.mk (congrArg some (congrArg Value.int (by first | (simp [bA, *]; done) | (subst_vars; exfalso; revert h1; decide)))) hs
      · (try simp only [Classical.not_not] at h3)
        refine gp_pu (st' := .int (200) :: _) dX9_isAsked_19 rfl ?_
        refine gp_goto (t := 47) dX9_isAsked_22 (by decide) ?_
        refine gp_icc (t := 54) dX9_isAsked_47 (by decide) c2_gt (fun h9 => ?_) (fun h9 => ?_)
        · have h9' := Int32.not_le.mpr h9
          (try simp only [Classical.not_not] at h9)
          refine gp_pu (st' := .int (0) :: _) dX9_isAsked_54 rfl ?_
          refine gp_zret dX9_isAsked_55 rfl (by first | exact Or.inl rfl | exact Or.inr rfl | assumption) ?_
          exact pX.mk (congrArg some (congrArg Value.int (by first | (simp [bA, *]; done) | (subst_vars; exfalso; revert h1; decide)))) hs
        · have h9' := Int32.not_lt.mp h9
          (try simp only [Classical.not_not] at h9)
          refine gp_pu (st' := .int (1) :: _) dX9_isAsked_50 rfl ?_
          refine gp_goto (t := 55) dX9_isAsked_51 (by decide) ?_
          refine gp_zret dX9_isAsked_55 rfl (by first | exact Or.inl rfl | exact Or.inr rfl | assumption) ?_
          exact pX.mk (congrArg some (congrArg Value.int (by first | (simp [bA, *]; done) | (subst_vars; exfalso; revert h1; decide)))) hs
  · have h1' := Int32.not_le.mp h1
    (try simp only [Classical.not_not] at h1)
    refine gp_pu (st' := .int (1) :: _) dX9_isAsked_6 rfl ?_
    refine gp_goto (t := 11) dX9_isAsked_7 (by decide) ?_
    refine gp_icc (t := 54) dX9_isAsked_11 (by decide) c2_lt (fun h10 => ?_) (fun h10 => ?_)
    · have h10' := Int32.not_le.mpr h10
      (try simp only [Classical.not_not] at h10)
      refine gp_pu (st' := .int (0) :: _) dX9_isAsked_54 rfl ?_
      refine gp_zret dX9_isAsked_55 rfl (by first | exact Or.inl rfl | exact Or.inr rfl | assumption) ?_
      exact pX.mk (congrArg some (congrArg Value.int (by first | (simp [bA, *]; done) | (subst_vars; exfalso; revert h1; decide)))) hs
    · have h10' := Int32.not_lt.mp h10
      (try simp only [Classical.not_not] at h10)
      refine gp_iload_n dX9_isAsked_14 rfl ?_
      refine gp_iload_n dX9_isAsked_15 rfl ?_
      refine gp_ifc (t := 25) dX9_isAsked_16 (by decide) c1_ne (fun h11 => ?_) (fun h11 => ?_)
      · (try simp only [Classical.not_not] at h11)
        refine gp_iload_n dX9_isAsked_25 rfl ?_
        refine gp_pu (st' := .int (1) :: _) dX9_isAsked_26 rfl ?_
        refine gp_icc (t := 35) dX9_isAsked_27 (by decide) c2_ne (fun h12 => ?_) (fun h12 => ?_)
        · (try simp only [Classical.not_not] at h12)
          refine gp_iload_n dX9_isAsked_35 rfl ?_
          refine gp_pu (st' := .int (2) :: _) dX9_isAsked_36 rfl ?_
          refine gp_icc (t := 45) dX9_isAsked_37 (by decide) c2_ne (fun h13 => ?_) (fun h13 => ?_)
          · (try simp only [Classical.not_not] at h13)
            refine gp_pu (st' := .int (60) :: _) dX9_isAsked_45 rfl ?_
            refine gp_icc (t := 54) dX9_isAsked_47 (by decide) c2_gt (fun h14 => ?_) (fun h14 => ?_)
            · have h14' := Int32.not_le.mpr h14
              (try simp only [Classical.not_not] at h14)
              refine gp_pu (st' := .int (0) :: _) dX9_isAsked_54 rfl ?_
              refine gp_zret dX9_isAsked_55 rfl (by first | exact Or.inl rfl | exact Or.inr rfl | assumption) ?_
              exact pX.mk (congrArg some (congrArg Value.int (by first | (simp [bA, *]; done) | (subst_vars; exfalso; revert h1; decide)))) hs
            · have h14' := Int32.not_lt.mp h14
              (try simp only [Classical.not_not] at h14)
              refine gp_pu (st' := .int (1) :: _) dX9_isAsked_50 rfl ?_
              refine gp_goto (t := 55) dX9_isAsked_51 (by decide) ?_
              refine gp_zret dX9_isAsked_55 rfl (by first | exact Or.inl rfl | exact Or.inr rfl | assumption) ?_
              exact pX.mk (congrArg some (congrArg Value.int (by first | (simp [bA, *]; done) | (subst_vars; exfalso; revert h1; decide)))) hs
          · (try simp only [Classical.not_not] at h13)
            refine gp_pu (st' := .int (9) :: _) dX9_isAsked_40 rfl ?_
            refine gp_goto (t := 47) dX9_isAsked_42 (by decide) ?_
            refine gp_icc (t := 54) dX9_isAsked_47 (by decide) c2_gt (fun h15 => ?_) (fun h15 => ?_)
            · have h15' := Int32.not_le.mpr h15
              (try simp only [Classical.not_not] at h15)
              refine gp_pu (st' := .int (0) :: _) dX9_isAsked_54 rfl ?_
              refine gp_zret dX9_isAsked_55 rfl (by first | exact Or.inl rfl | exact Or.inr rfl | assumption) ?_
              exact pX.mk (congrArg some (congrArg Value.int (by first | (simp [bA, *]; done) | (subst_vars; exfalso; revert h1; decide)))) hs
            · have h15' := Int32.not_lt.mp h15
              (try simp only [Classical.not_not] at h15)
              refine gp_pu (st' := .int (1) :: _) dX9_isAsked_50 rfl ?_
              refine gp_goto (t := 55) dX9_isAsked_51 (by decide) ?_
              refine gp_zret dX9_isAsked_55 rfl (by first | exact Or.inl rfl | exact Or.inr rfl | assumption) ?_
              exact pX.mk (congrArg some (congrArg Value.int (by first | (simp [bA, *]; done) | (subst_vars; exfalso; revert h1; decide)))) hs
        · (try simp only [Classical.not_not] at h12)
          refine gp_pu (st' := .int (20) :: _) dX9_isAsked_30 rfl ?_
          refine gp_goto (t := 47) dX9_isAsked_32 (by decide) ?_
          refine gp_icc (t := 54) dX9_isAsked_47 (by decide) c2_gt (fun h16 => ?_) (fun h16 => ?_)
          · have h16' := Int32.not_le.mpr h16
            (try simp only [Classical.not_not] at h16)
            refine gp_pu (st' := .int (0) :: _) dX9_isAsked_54 rfl ?_
            refine gp_zret dX9_isAsked_55 rfl (by first | exact Or.inl rfl | exact Or.inr rfl | assumption) ?_
            exact pX.mk (congrArg some (congrArg Value.int (by first | (simp [bA, *]; done) | (subst_vars; exfalso; revert h1; decide)))) hs
          · have h16' := Int32.not_lt.mp h16
            (try simp only [Classical.not_not] at h16)
            refine gp_pu (st' := .int (1) :: _) dX9_isAsked_50 rfl ?_
            refine gp_goto (t := 55) dX9_isAsked_51 (by decide) ?_
            refine gp_zret dX9_isAsked_55 rfl (by first | exact Or.inl rfl | exact Or.inr rfl | assumption) ?_
            exact pX.mk (congrArg some (congrArg Value.int (by first | (simp [bA, *]; done) | (subst_vars; exfalso; revert h1; decide)))) hs
      · (try simp only [Classical.not_not] at h11)
        refine gp_pu (st' := .int (200) :: _) dX9_isAsked_19 rfl ?_
        refine gp_goto (t := 47) dX9_isAsked_22 (by decide) ?_
        refine gp_icc (t := 54) dX9_isAsked_47 (by decide) c2_gt (fun h17 => ?_) (fun h17 => ?_)
        · have h17' := Int32.not_le.mpr h17
          (try simp only [Classical.not_not] at h17)
          refine gp_pu (st' := .int (0) :: _) dX9_isAsked_54 rfl ?_
          refine gp_zret dX9_isAsked_55 rfl (by first | exact Or.inl rfl | exact Or.inr rfl | assumption) ?_
          exact pX.mk (congrArg some (congrArg Value.int (by first | (simp [bA, *]; done) | (subst_vars; exfalso; revert h1; decide)))) hs
        · have h17' := Int32.not_lt.mp h17
          (try simp only [Classical.not_not] at h17)
          refine gp_pu (st' := .int (1) :: _) dX9_isAsked_50 rfl ?_
          refine gp_goto (t := 55) dX9_isAsked_51 (by decide) ?_
          refine gp_zret dX9_isAsked_55 rfl (by first | exact Or.inl rfl | exact Or.inr rfl | assumption) ?_
          exact pX.mk (congrArg some (congrArg Value.int (by first | (simp [bA, *]; done) | (subst_vars; exfalso; revert h1; decide)))) hs

def tlI (w : Int32) : Nat := if w = 0 then 2 else if w = 1 then 3 else if w = 2 then 4 else 5

theorem sw_t (x : Int32) : x = 0 ∨ x = 1 ∨ x = 2 ∨ (¬ x = 0 ∧ ¬ x = 1 ∧ ¬ x = 2 ∧ (x.toInt < 0 ∨ 2 < x.toInt)) := by
  simp only [ti_eq, show (0 : Int32).toInt = 0 from by decide, show (1 : Int32).toInt = 1 from by decide, show (2 : Int32).toInt = 2 from by decide]
  omega

set_option maxHeartbeats 400000 in
theorem ml_tells (d : Nat) (hs : mR I C J) {w x : Int32} : cP (d + 1) 152 [.ref 108, .int w, .int x] (mm_sh, mm_R, J, L) (pX none L (mR (mm_u I 108 (tlI w) x) C)) := by
  refine cP.of_gP (d := d + 0) me_152 ⟨Nat.le_of_ble_eq_true rfl, rfl⟩ ?_
  show gP mm_cs0 _ _ _ _ _ _ [some (.ref _), some (.int _), some (.int _)] [] _ _
  refine gp_iload_n dX9_tells_0 rfl ?_
  rcases sw_t w with hsw | hsw | hsw | hsw
  · refine gp_ts (t := 28) dX9_tells_1 (by rw [hsw]; rfl) (by decide) ?_
    refine gp_aload_n dX9_tells_28 rfl ?_
    refine gp_iload_n dX9_tells_29 rfl ?_
    refine gp_pi dX9_tells_30 mf_9_7 rfl rfl (by first | rfl | assumption | (simp only [*]; done)) ?_
    refine gp_goto (t := 57) dX9_tells_33 (by decide) ?_
    refine gp_vret dX9_tells_57 rfl ?_
    exact pX.mk rfl (by first | (subst hsw; exact hs.uu (by decide)) | (unfold tlI; rw [if_neg hsw.1, if_neg hsw.2.1, if_neg hsw.2.2.1]; exact hs.uu (by decide)))
  · refine gp_ts (t := 36) dX9_tells_1 (by rw [hsw]; rfl) (by decide) ?_
    refine gp_aload_n dX9_tells_36 rfl ?_
    refine gp_iload_n dX9_tells_37 rfl ?_
    refine gp_pi dX9_tells_38 mf_9_13 rfl rfl (by first | rfl | assumption | (simp only [*]; done)) ?_
    refine gp_goto (t := 57) dX9_tells_41 (by decide) ?_
    refine gp_vret dX9_tells_57 rfl ?_
    exact pX.mk rfl (by first | (subst hsw; exact hs.uu (by decide)) | (unfold tlI; rw [if_neg hsw.1, if_neg hsw.2.1, if_neg hsw.2.2.1]; exact hs.uu (by decide)))
  · refine gp_ts (t := 44) dX9_tells_1 (by rw [hsw]; rfl) (by decide) ?_
    refine gp_aload_n dX9_tells_44 rfl ?_
    refine gp_iload_n dX9_tells_45 rfl ?_
    refine gp_pi dX9_tells_46 mf_9_16 rfl rfl (by first | rfl | assumption | (simp only [*]; done)) ?_
    refine gp_goto (t := 57) dX9_tells_49 (by decide) ?_
    refine gp_vret dX9_tells_57 rfl ?_
    exact pX.mk rfl (by first | (subst hsw; exact hs.uu (by decide)) | (unfold tlI; rw [if_neg hsw.1, if_neg hsw.2.1, if_neg hsw.2.2.1]; exact hs.uu (by decide)))
  · refine gp_ts (t := 52) dX9_tells_1 (if_pos hsw.2.2.2) (by decide) ?_
    refine gp_aload_n dX9_tells_52 rfl ?_
    refine gp_iload_n dX9_tells_53 rfl ?_
    refine gp_pi dX9_tells_54 mf_9_19 rfl rfl (by first | rfl | assumption | (simp only [*]; done)) ?_
    refine gp_vret dX9_tells_57 rfl ?_
    exact pX.mk rfl (by first | (subst hsw; exact hs.uu (by decide)) | (unfold tlI; rw [if_neg hsw.1, if_neg hsw.2.1, if_neg hsw.2.2.1]; exact hs.uu (by decide)))

theorem q_told_c (hb : bR I N S) {w : Int32} (h : 0 ≤ w ∧ w < 4) : I 4 w.toNatClampNeg = q_told I w ∧ mm_in w 4 = true := by
  have h4 := mm_in_4.mpr h
  refine ⟨?_, h4⟩
  rw [hb.w (sc.rf I) (mm_in_lt h4)]
  rcases sb_3 (x := w) (Int32.not_lt.mpr h.1) (by rw [Int32.not_lt]; have := h.2; rw [ti_lt, show (4 : Int32).toInt = 4 from by decide] at this; rw [ti_le, show (3 : Int32).toInt = 3 from by decide]; omega) with rfl | rfl | rfl | rfl <;> rfl
theorem x_term_4 {w : Int32} (h : 0 ≤ w ∧ w < 4) (x : Int32) : x_term I 1 w x = mm_u I 4 w.toNatClampNeg x := by
  unfold x_term
  rw [if_pos h, mm_u_sr]

set_option maxHeartbeats 400000 in
theorem cl_ask (d : Nat) (hb : bR I N S) {w x : Int32} : cP (d + 3) 73 [.ref 0, .int w, .int x] (mm_sh, mm_R, I, L) (pX (some (.int (vq (w_as w x) (q_told I w)))) (lL (w_as w x) L L) (sc (uC (w_as w x) (mm_u I 4 w.toNatClampNeg x) I))) := by
  have hs := sc.rf I
  have e11 : I 1 1 = nI N := hb.c11 hs
  have e13 : I 1 3 = nI S := hb.c13 hs
  refine cP.of_gP (d := d + 2) me_73 ⟨Nat.le_of_ble_eq_true rfl, rfl⟩ ?_
  show gP mm_cs0 _ _ _ _ _ _ [some (.ref _), some (.int _), some (.int _), none] [] _ _
  refine gp_iload_n dX8_ask_0 rfl ?_
  refine gp_call (kind := 0) (args := [.int _]) (rest := _) dX8_ask_1 (Or.inl ⟨rfl, rfl⟩) mk_8_218 (by decide) me_103 rfl rfl rfl rfl rfl rfl (ok_X8_isTerm _ _ _ _) rfl ?_
  refine gp_ifc (t := 25) dX8_ask_4 (by decide) c1_eq (fun h1 => ?_) (fun h1 => ?_)
  · (try simp only [bi_0, bi_1, Classical.not_not, e11, e13] at h1)
    refine gp_aload_n dX8_ask_25 rfl ?_
    refine gp_pu (st' := .int (-6) :: _) dX8_ask_26 rfl ?_
    refine gp_call (kind := 1) (args := [.ref _, .int _]) (rest := _) dX8_ask_28 (Or.inr (Or.inl ⟨rfl, rfl⟩)) mk_8_79 (by decide) me_100 rfl rfl rfl rfl rfl (mm_rc_of (by first | rfl | assumption | (simp only [*]; done))) (ok_X8_refuse _ _ _ _) rfl ?_
    refine gp_iret dX8_ask_31 rfl ?_
    first | (refine uNo ?zqa (by unfold isW; decide); (case zqa => (exact (w_as_n (by assumption))))) | (refine uNo ?zqa (by unfold isW; decide); (case zqa => (exact (w_as_b (fun z => ((ask_eq (by assumption)).mp z).1 (by assumption)))))) | (refine uNo ?zqa (by unfold isW; decide); (case zqa => (exact (w_as_b (fun z => ((ask_eq (by assumption)).mp z).2 (Int32.not_le.mp (by assumption))))))) | (refine uNo ?zqa (by unfold isW; decide); (case zqa => (exact (w_as_b (fun z => ((ask_eq (by assumption)).mp z).2 (by assumption)))))) | (refine uNo ?zqa (by unfold isW; decide); (case zqa => (exact (w_as_k (by assumption) ((ask_eq (by assumption)).mpr ⟨by assumption, Int32.not_lt.mpr (by assumption)⟩))))) | (refine uNo ?zqa (by unfold isW; decide); (case zqa => (exact (w_as_k (by assumption) ((ask_eq (by assumption)).mpr ⟨by assumption, by assumption⟩)))))
  · (try simp only [bi_0, bi_1, Classical.not_not, e11, e13] at h1)
    obtain ⟨zqt1, zqt2⟩ := q_told_c hb (w := w) (by assumption)
    refine gp_iload_n dX8_ask_7 rfl ?_
    refine gp_gs dX8_ask_8 rfl ?_
    refine gp_iload_n dX8_ask_11 rfl ?_
    refine gp_iac dX8_ask_12 rfl (by first | rfl | assumption | (simp only [*]; done)) ?_
    refine gp_icc (t := 25) dX8_ask_13 (by decide) c2_lt (fun h2 => ?_) (fun h2 => ?_)
    · have h2' := Int32.not_le.mpr h2
      (try simp only [bi_0, bi_1, Classical.not_not, e11, e13] at h2)
      refine gp_aload_n dX8_ask_25 rfl ?_
      refine gp_pu (st' := .int (-6) :: _) dX8_ask_26 rfl ?_
      refine gp_call (kind := 1) (args := [.ref _, .int _]) (rest := _) dX8_ask_28 (Or.inr (Or.inl ⟨rfl, rfl⟩)) mk_8_79 (by decide) me_100 rfl rfl rfl rfl rfl (mm_rc_of (by first | rfl | assumption | (simp only [*]; done))) (ok_X8_refuse _ _ _ _) rfl ?_
      refine gp_iret dX8_ask_31 rfl ?_
      first | (refine uNo ?zqa (by unfold isW; decide); (case zqa => (exact (w_as_n (by assumption))))) | (refine uNo ?zqa (by unfold isW; decide); (case zqa => (exact (w_as_b (fun z => ((ask_eq (by assumption)).mp z).1 (by assumption)))))) | (refine uNo ?zqa (by unfold isW; decide); (case zqa => (exact (w_as_b (fun z => ((ask_eq (by assumption)).mp z).2 (Int32.not_le.mp (by assumption))))))) | (refine uNo ?zqa (by unfold isW; decide); (case zqa => (exact (w_as_b (fun z => ((ask_eq (by assumption)).mp z).2 (by assumption)))))) | (refine uNo ?zqa (by unfold isW; decide); (case zqa => (exact (w_as_k (by assumption) ((ask_eq (by assumption)).mpr ⟨by assumption, Int32.not_lt.mpr (by assumption)⟩))))) | (refine uNo ?zqa (by unfold isW; decide); (case zqa => (exact (w_as_k (by assumption) ((ask_eq (by assumption)).mpr ⟨by assumption, by assumption⟩)))))
    · have h2' := Int32.not_lt.mp h2
      (try simp only [bi_0, bi_1, Classical.not_not, e11, e13] at h2)
      refine gp_iload_n dX8_ask_16 rfl ?_
      refine gp_gs dX8_ask_17 rfl ?_
      refine gp_iload_n dX8_ask_20 rfl ?_
      refine gp_iac dX8_ask_21 rfl (by first | rfl | assumption | (simp only [*]; done)) ?_
      refine gp_icc (t := 32) dX8_ask_22 (by decide) c2_le (fun h3 => ?_) (fun h3 => ?_)
      · have h3' := Int32.not_lt.mpr h3
        (try simp only [bi_0, bi_1, Classical.not_not, e11, e13] at h3)
        refine gp_aload_n dX8_ask_32 rfl ?_
        refine gp_gr dX8_ask_33 mf_8_10 rfl (by first | rfl | assumption | (simp only [*]; done)) (by first | rfl | assumption | (simp only [*]; done)) ?_
        refine gp_gr dX8_ask_36 mf_8_227 rfl (by first | rfl | assumption | (simp only [*]; done)) (by first | rfl | assumption | (simp only [*]; done)) ?_
        refine gp_iload_n dX8_ask_39 rfl ?_
        refine gp_ialv dX8_ask_40 rfl (by first | rfl | assumption | (simp only [*]; done)) (by first | rfl | assumption | (simp only [*]; done)) (by first | exact zqt1 | exact rfl) ?_
        refine gp_istore_n (ls' := [some (.ref _), some (.int _), some (.int _), some (.int _)]) dX8_ask_41 rfl (Nat.le_of_ble_eq_true rfl) ?_
        refine gp_aload_n dX8_ask_42 rfl ?_
        refine gp_gr dX8_ask_43 mf_8_10 rfl (by first | rfl | assumption | (simp only [*]; done)) (by first | rfl | assumption | (simp only [*]; done)) ?_
        refine gp_iload_n dX8_ask_46 rfl ?_
        refine gp_iload_n dX8_ask_47 rfl ?_
        refine gp_call (kind := 1) (args := [.ref _, .int _, .int _]) (rest := _) dX8_ask_48 (Or.inr (Or.inl ⟨rfl, rfl⟩)) mk_8_230 (by decide) me_7 rfl rfl rfl rfl rfl (mm_rc_of (by first | rfl | assumption | (simp only [*]; done))) (ok_X1_setTerm _ _ _ 1 isF_1 _ _) rfl ?_
        refine gp_iload_n dX8_ask_51 rfl ?_
        refine gp_iret dX8_ask_52 rfl ?_
        first | (refine uOk ?zqa ?zqb (by rw [x_term_4 (by assumption)]; exact sc.rf _); (case zqa => (exact (w_as_n (by assumption)))); (case zqb => (exact zqt1.symm))) | (refine uOk ?zqa ?zqb (by rw [x_term_4 (by assumption)]; exact sc.rf _); (case zqa => (exact (w_as_n (by assumption)))); (case zqb => (exact rfl))) | (refine uOk ?zqa ?zqb (by rw [x_term_4 (by assumption)]; exact sc.rf _); (case zqa => (exact (w_as_b (fun z => ((ask_eq (by assumption)).mp z).1 (by assumption))))); (case zqb => (exact zqt1.symm))) | (refine uOk ?zqa ?zqb (by rw [x_term_4 (by assumption)]; exact sc.rf _); (case zqa => (exact (w_as_b (fun z => ((ask_eq (by assumption)).mp z).1 (by assumption))))); (case zqb => (exact rfl))) | (refine uOk ?zqa ?zqb (by rw [x_term_4 (by assumption)]; exact sc.rf _); (case zqa => (exact (w_as_b (fun z => ((ask_eq (by assumption)).mp z).2 (Int32.not_le.mp (by assumption)))))); (case zqb => (exact zqt1.symm))) | (refine uOk ?zqa ?zqb (by rw [x_term_4 (by assumption)]; exact sc.rf _); (case zqa => (exact (w_as_b (fun z => ((ask_eq (by assumption)).mp z).2 (Int32.not_le.mp (by assumption)))))); (case zqb => (exact rfl))) | (refine uOk ?zqa ?zqb (by rw [x_term_4 (by assumption)]; exact sc.rf _); (case zqa => (exact (w_as_b (fun z => ((ask_eq (by assumption)).mp z).2 (by assumption))))); (case zqb => (exact zqt1.symm))) | (refine uOk ?zqa ?zqb (by rw [x_term_4 (by assumption)]; exact sc.rf _); (case zqa => (exact (w_as_b (fun z => ((ask_eq (by assumption)).mp z).2 (by assumption))))); (case zqb => (exact rfl))) | (refine uOk ?zqa ?zqb (by rw [x_term_4 (by assumption)]; exact sc.rf _); (case zqa => (exact (w_as_k (by assumption) ((ask_eq (by assumption)).mpr ⟨by assumption, Int32.not_lt.mpr (by assumption)⟩)))); (case zqb => (exact zqt1.symm))) | (refine uOk ?zqa ?zqb (by rw [x_term_4 (by assumption)]; exact sc.rf _); (case zqa => (exact (w_as_k (by assumption) ((ask_eq (by assumption)).mpr ⟨by assumption, Int32.not_lt.mpr (by assumption)⟩)))); (case zqb => (exact rfl))) | (refine uOk ?zqa ?zqb (by rw [x_term_4 (by assumption)]; exact sc.rf _); (case zqa => (exact (w_as_k (by assumption) ((ask_eq (by assumption)).mpr ⟨by assumption, by assumption⟩)))); (case zqb => (exact zqt1.symm))) | (refine uOk ?zqa ?zqb (by rw [x_term_4 (by assumption)]; exact sc.rf _); (case zqa => (exact (w_as_k (by assumption) ((ask_eq (by assumption)).mpr ⟨by assumption, by assumption⟩)))); (case zqb => (exact rfl)))
      · have h3' := Int32.not_le.mp h3
        (try simp only [bi_0, bi_1, Classical.not_not, e11, e13] at h3)
        refine gp_aload_n dX8_ask_25 rfl ?_
        refine gp_pu (st' := .int (-6) :: _) dX8_ask_26 rfl ?_
        refine gp_call (kind := 1) (args := [.ref _, .int _]) (rest := _) dX8_ask_28 (Or.inr (Or.inl ⟨rfl, rfl⟩)) mk_8_79 (by decide) me_100 rfl rfl rfl rfl rfl (mm_rc_of (by first | rfl | assumption | (simp only [*]; done))) (ok_X8_refuse _ _ _ _) rfl ?_
        refine gp_iret dX8_ask_31 rfl ?_
        first | (refine uNo ?zqa (by unfold isW; decide); (case zqa => (exact (w_as_n (by assumption))))) | (refine uNo ?zqa (by unfold isW; decide); (case zqa => (exact (w_as_b (fun z => ((ask_eq (by assumption)).mp z).1 (by assumption)))))) | (refine uNo ?zqa (by unfold isW; decide); (case zqa => (exact (w_as_b (fun z => ((ask_eq (by assumption)).mp z).2 (Int32.not_le.mp (by assumption))))))) | (refine uNo ?zqa (by unfold isW; decide); (case zqa => (exact (w_as_b (fun z => ((ask_eq (by assumption)).mp z).2 (by assumption)))))) | (refine uNo ?zqa (by unfold isW; decide); (case zqa => (exact (w_as_k (by assumption) ((ask_eq (by assumption)).mpr ⟨by assumption, Int32.not_lt.mpr (by assumption)⟩))))) | (refine uNo ?zqa (by unfold isW; decide); (case zqa => (exact (w_as_k (by assumption) ((ask_eq (by assumption)).mpr ⟨by assumption, by assumption⟩)))))

set_option maxHeartbeats 400000 in
theorem ml_ask (d : Nat) (v : vN I N S) (hs : mR I C J) {w x : Int32} : cP (d + 3) 153 [.ref 108, .int w, .int x] (mm_sh, mm_R, J, L) (pX (some (.int (vq (w_as w x) (q_told I w)))) (lL (w_as w x) L L) (mR (uM (w_as w x) (mm_u I 108 (tlI w) x) I) C)) := by
  have m0 : J 108 0 = nI N := (hs.r (by decide)).trans v.2.2.1
  have m1 : J 108 1 = nI S := (hs.r (by decide)).trans v.2.2.2.1
  refine cP.of_gP (d := d + 2) me_153 ⟨Nat.le_of_ble_eq_true rfl, rfl⟩ ?_
  show gP mm_cs0 _ _ _ _ _ _ [some (.ref _), some (.int _), some (.int _), none] [] _ _
  refine gp_iload_n dX9_ask_0 rfl ?_
  refine gp_ifc (t := 18) dX9_ask_1 (by decide) c1_lt (fun h1 => ?_) (fun h1 => ?_)
  · have h1' := Int32.not_le.mpr h1
    (try simp only [bA_0, Classical.not_not, m0, m1] at h1)
    refine gp_aload_n dX9_ask_18 rfl ?_
    refine gp_pu (st' := .int (-6) :: _) dX9_ask_19 rfl ?_
    refine gp_call (kind := 1) (args := [.ref _, .int _]) (rest := _) dX9_ask_21 (Or.inr (Or.inl ⟨rfl, rfl⟩)) mk_9_127 (by decide) me_127 rfl rfl rfl rfl rfl (mm_rc_of (by first | rfl | assumption | (simp only [*]; done))) (ok_X9_no _ _ _ _ (by decide)) rfl ?_
    refine gp_iret dX9_ask_24 rfl ?_
    first | (refine uMo ?zqa (by unfold isW; decide) hs; (case zqa => (exact (w_as_n (by rw [i_47]; exact fun z => z (Or.inl (by assumption))))))) | (refine uMo ?zqa (by unfold isW; decide) hK1; (case zqa => (exact (w_as_n (by rw [i_47]; exact fun z => z (Or.inl (by assumption))))))) | (refine uMo ?zqa (by unfold isW; decide) hs; (case zqa => (exact (w_as_n (by rw [i_47]; exact fun z => z (Or.inr (by assumption))))))) | (refine uMo ?zqa (by unfold isW; decide) hK1; (case zqa => (exact (w_as_n (by rw [i_47]; exact fun z => z (Or.inr (by assumption))))))) | (refine uMo ?zqa (by unfold isW; decide) hs; (case zqa => (exact (w_as_b (by assumption))))) | (refine uMo ?zqa (by unfold isW; decide) hK1; (case zqa => (exact (w_as_b (by assumption))))) | (refine uMo ?zqa (by unfold isW; decide) hs; (case zqa => (exact (w_as_k zqw4 (by assumption))))) | (refine uMo ?zqa (by unfold isW; decide) hK1; (case zqa => (exact (w_as_k zqw4 (by assumption)))))
  · have h1' := Int32.not_lt.mp h1
    (try simp only [bA_0, Classical.not_not, m0, m1] at h1)
    refine gp_iload_n dX9_ask_4 rfl ?_
    refine gp_pu (st' := .int (3) :: _) dX9_ask_5 rfl ?_
    refine gp_icc (t := 18) dX9_ask_6 (by decide) c2_gt (fun h2 => ?_) (fun h2 => ?_)
    · have h2' := Int32.not_le.mpr h2
      (try simp only [bA_0, Classical.not_not, m0, m1] at h2)
      refine gp_aload_n dX9_ask_18 rfl ?_
      refine gp_pu (st' := .int (-6) :: _) dX9_ask_19 rfl ?_
      refine gp_call (kind := 1) (args := [.ref _, .int _]) (rest := _) dX9_ask_21 (Or.inr (Or.inl ⟨rfl, rfl⟩)) mk_9_127 (by decide) me_127 rfl rfl rfl rfl rfl (mm_rc_of (by first | rfl | assumption | (simp only [*]; done))) (ok_X9_no _ _ _ _ (by decide)) rfl ?_
      refine gp_iret dX9_ask_24 rfl ?_
      first | (refine uMo ?zqa (by unfold isW; decide) hs; (case zqa => (exact (w_as_n (by rw [i_47]; exact fun z => z (Or.inl (by assumption))))))) | (refine uMo ?zqa (by unfold isW; decide) hK1; (case zqa => (exact (w_as_n (by rw [i_47]; exact fun z => z (Or.inl (by assumption))))))) | (refine uMo ?zqa (by unfold isW; decide) hs; (case zqa => (exact (w_as_n (by rw [i_47]; exact fun z => z (Or.inr (by assumption))))))) | (refine uMo ?zqa (by unfold isW; decide) hK1; (case zqa => (exact (w_as_n (by rw [i_47]; exact fun z => z (Or.inr (by assumption))))))) | (refine uMo ?zqa (by unfold isW; decide) hs; (case zqa => (exact (w_as_b (by assumption))))) | (refine uMo ?zqa (by unfold isW; decide) hK1; (case zqa => (exact (w_as_b (by assumption))))) | (refine uMo ?zqa (by unfold isW; decide) hs; (case zqa => (exact (w_as_k zqw4 (by assumption))))) | (refine uMo ?zqa (by unfold isW; decide) hK1; (case zqa => (exact (w_as_k zqw4 (by assumption)))))
    · have h2' := Int32.not_lt.mp h2
      (try simp only [bA_0, Classical.not_not, m0, m1] at h2)
      have zqw4 : 0 ≤ w ∧ w < 4 := by rw [i_47]; rintro (z | z); exact h1 z; exact h2 z
      refine gp_aload_n dX9_ask_9 rfl ?_
      refine gp_iload_n dX9_ask_10 rfl ?_
      refine gp_iload_n dX9_ask_11 rfl ?_
      refine gp_callX (kind := 1) (args := [.ref _, .int _, .int _]) (rest := _) dX9_ask_12 (Or.inr (Or.inl ⟨rfl, rfl⟩)) mk_9_159 (by decide) me_150 rfl rfl rfl rfl rfl (mm_rc_of (by first | rfl | assumption | (simp only [*]; done))) (ml_isAsked _ hs) ?_
      intro K1 hK1
      refine gp_ifc (t := 25) dX9_ask_15 (by decide) c1_ne (fun h3 => ?_) (fun h3 => ?_)
      · (try simp only [bA_0, Classical.not_not, m0, m1] at h3)
        refine gp_aload_n dX9_ask_25 rfl ?_
        refine gp_iload_n dX9_ask_26 rfl ?_
        refine gp_callX (kind := 1) (args := [.ref _, .int _]) (rest := _) dX9_ask_27 (Or.inr (Or.inl ⟨rfl, rfl⟩)) mk_9_163 (by decide) me_151 rfl rfl rfl rfl rfl (mm_rc_of (by first | rfl | assumption | (simp only [*]; done))) (ml_told _ v hK1) ?_
        intro K2 hK2
        refine gp_istore_n (ls' := [some (.ref _), some (.int _), some (.int _), some (.int _)]) dX9_ask_30 rfl (Nat.le_of_ble_eq_true rfl) ?_
        refine gp_aload_n dX9_ask_31 rfl ?_
        refine gp_iload_n dX9_ask_32 rfl ?_
        refine gp_iload_n dX9_ask_33 rfl ?_
        refine gp_callX (kind := 1) (args := [.ref _, .int _, .int _]) (rest := _) dX9_ask_34 (Or.inr (Or.inl ⟨rfl, rfl⟩)) mk_9_166 (by decide) me_152 rfl rfl rfl rfl rfl (mm_rc_of (by first | rfl | assumption | (simp only [*]; done))) (ml_tells _ hK2) ?_
        intro K3 hK3
        refine gp_iload_n dX9_ask_37 rfl ?_
        refine gp_iret dX9_ask_38 rfl ?_
        first | (refine uMk ?zqa ?zqb hK3; (case zqa => (exact (w_as_n (by rw [i_47]; exact fun z => z (Or.inl (by assumption)))))); (case zqb => (exact rfl))) | (refine uMk ?zqa ?zqb hK3; (case zqa => (exact (w_as_n (by rw [i_47]; exact fun z => z (Or.inr (by assumption)))))); (case zqb => (exact rfl))) | (refine uMk ?zqa ?zqb hK3; (case zqa => (exact (w_as_b (by assumption)))); (case zqb => (exact rfl))) | (refine uMk ?zqa ?zqb hK3; (case zqa => (exact (w_as_k zqw4 (by assumption)))); (case zqb => (exact rfl)))
      · (try simp only [bA_0, Classical.not_not, m0, m1] at h3)
        refine gp_aload_n dX9_ask_18 rfl ?_
        refine gp_pu (st' := .int (-6) :: _) dX9_ask_19 rfl ?_
        refine gp_call (kind := 1) (args := [.ref _, .int _]) (rest := _) dX9_ask_21 (Or.inr (Or.inl ⟨rfl, rfl⟩)) mk_9_127 (by decide) me_127 rfl rfl rfl rfl rfl (mm_rc_of (by first | rfl | assumption | (simp only [*]; done))) (ok_X9_no _ _ _ _ (by decide)) rfl ?_
        refine gp_iret dX9_ask_24 rfl ?_
        first | (refine uMo ?zqa (by unfold isW; decide) hs; (case zqa => (exact (w_as_n (by rw [i_47]; exact fun z => z (Or.inl (by assumption))))))) | (refine uMo ?zqa (by unfold isW; decide) hK1; (case zqa => (exact (w_as_n (by rw [i_47]; exact fun z => z (Or.inl (by assumption))))))) | (refine uMo ?zqa (by unfold isW; decide) hs; (case zqa => (exact (w_as_n (by rw [i_47]; exact fun z => z (Or.inr (by assumption))))))) | (refine uMo ?zqa (by unfold isW; decide) hK1; (case zqa => (exact (w_as_n (by rw [i_47]; exact fun z => z (Or.inr (by assumption))))))) | (refine uMo ?zqa (by unfold isW; decide) hs; (case zqa => (exact (w_as_b (by assumption))))) | (refine uMo ?zqa (by unfold isW; decide) hK1; (case zqa => (exact (w_as_b (by assumption))))) | (refine uMo ?zqa (by unfold isW; decide) hs; (case zqa => (exact (w_as_k zqw4 (by assumption))))) | (refine uMo ?zqa (by unfold isW; decide) hK1; (case zqa => (exact (w_as_k zqw4 (by assumption)))))

theorem eq_ask (w x : Int32) : eqc 73 153 [.int w, .int x] := by
  refine eqc_u fun I L hR => ?_
  have hR0 := hR
  obtain ⟨N, S, hb, hS, hL, hK, hT, hW, hE⟩ := hR
  refine ⟨_, w_as w x, mm_u I 4 w.toNatClampNeg x, mm_u I 108 (tlI w) x, (fun L => L), (fun L => L), w_as_w w x, fun hw => ?_, cl_ask 37 hb, fun C J K hs => ml_ask 37 hb.1 hs, fun hw => ?_⟩
  · exact fun k hk => mm_u_k _ _ _ (by omega)
  · obtain ⟨a, b⟩ := w_as_0 hw
    rcases ask_wi a b with ⟨rfl, c⟩ | ⟨rfl, c⟩ | ⟨rfl, c⟩ | ⟨rfl, c⟩
    · exact hR0.now2 (hb.1.fl (j := 2) hb.n.1 hb.n.2.1 (Nat.le_refl _) rfl rfl ⟨fun _ => c, fun z => absurd z (by decide), fun z => absurd z (by decide), fun z => absurd z (by decide), fun z => absurd z (by decide)⟩) (hb.2.tm (w := 0) _ (by decide)) (Int32.le_refl _) (fun k a b => mm_u_k _ _ _ (by omega)) (fun k a b => mm_u_k _ _ _ (by omega)) rfl rfl rfl
    · exact hR0.now2 (hb.1.fl (j := 3) hb.n.1 hb.n.2.1 (Nat.le_refl _) rfl rfl ⟨fun z => absurd z (by decide), fun _ => c, fun z => absurd z (by decide), fun z => absurd z (by decide), fun z => absurd z (by decide)⟩) (hb.2.tm (w := 1) _ (by decide)) (Int32.le_refl _) (fun k a b => mm_u_k _ _ _ (by omega)) (fun k a b => mm_u_k _ _ _ (by omega)) rfl rfl rfl
    · exact hR0.now2 (hb.1.fl (j := 4) hb.n.1 hb.n.2.1 (Nat.le_refl _) rfl rfl ⟨fun z => absurd z (by decide), fun z => absurd z (by decide), fun _ => c, fun z => absurd z (by decide), fun z => absurd z (by decide)⟩) (hb.2.tm (w := 2) _ (by decide)) (Int32.le_refl _) (fun k a b => mm_u_k _ _ _ (by omega)) (fun k a b => mm_u_k _ _ _ (by omega)) rfl rfl rfl
    · exact hR0.now2 (hb.1.fl (j := 5) hb.n.1 hb.n.2.1 (Nat.le_refl _) rfl rfl ⟨fun z => absurd z (by decide), fun z => absurd z (by decide), fun z => absurd z (by decide), fun _ => c, fun z => absurd z (by decide)⟩) (hb.2.tm (w := 3) _ (by decide)) (Int32.le_refl _) (fun k a b => mm_u_k _ _ _ (by omega)) (fun k a b => mm_u_k _ _ _ (by omega)) rfl rfl rfl
end P66
