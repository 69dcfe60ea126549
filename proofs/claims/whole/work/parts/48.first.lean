/-! LAYER A: who is first in truth, and the race -/
def x_fiT (I : mI) (i : Nat) : Int32 := r_time (I (92 + 2 * (nI i).toNatClampNeg))

set_option maxHeartbeats 1000000 in
theorem lp_X8_firstInTruth (d : Nat) (I : mI) (L : mL) (N : Nat) (h8 : N ≤ 8) (h1c : I 1 1 = nI N) : ∀ (n i : Nat) (v : Option Value), i + n = N → mm_Go mm_cs0 (d + 1) 8 false (some .int) cX8_firstInTruth 8 [some (.ref 0), some (.int (x_lst 999 (x_fiT I) i).1), some (.int (x_lst 999 (x_fiT I) i).2), some (.int (nI i)), v] [] (mm_sh, mm_R, I, L) (some (.int (x_lst 999 (x_fiT I) N).1)) (mm_sh, mm_R, I, L) := by
  intro n
  induction n with
  | zero =>
    intro i v hi
    obtain rfl : i = N := by omega
    have hc : I 1 1 ≤ nI i := by rw [h1c]; exact Int32.le_refl _
    refine go_iload_n dX8_firstInTruth_8 rfl ?_
    refine go_aload_n dX8_firstInTruth_9 rfl ?_
    refine go_gr dX8_firstInTruth_10 mf_8_10 rfl (by first | rfl | assumption | (simp only [*]; done)) (by first | rfl | assumption | (simp only [*]; done)) ?_
    refine go_gi dX8_firstInTruth_13 mf_8_154 (by decide) (by first | rfl | assumption | (simp only [*]; done)) ?_
    refine go_icc (t := 47) dX8_firstInTruth_16 (by decide) c2_ge (fun h1 => ?_) (fun h1 => ?_)
    · have h1' := Int32.not_lt.mpr h1
      refine go_iload_n dX8_firstInTruth_47 rfl ?_
      refine go_iret dX8_firstInTruth_48 rfl ?_ ?_
      · first | with_reducible rfl | rfl
      · first | with_reducible rfl | rfl
    · exact absurd hc h1
  | succ n ih =>
    intro i v hi
    have hc : ¬ I 1 1 ≤ nI i := by rw [h1c]; exact nI_ge (by omega) (by omega)
    have hi8 : mm_in (nI i) 8 = true := mm_in_8.mpr ⟨nI_pos' (by omega), nI_lt (b := 8) (by omega) (by omega)⟩
    obtain ⟨hr, hra⟩ := isRa_c _ (mm_in_lt hi8)
    refine go_iload_n dX8_firstInTruth_8 rfl ?_
    refine go_aload_n dX8_firstInTruth_9 rfl ?_
    refine go_gr dX8_firstInTruth_10 mf_8_10 rfl (by first | rfl | assumption | (simp only [*]; done)) (by first | rfl | assumption | (simp only [*]; done)) ?_
    refine go_gi dX8_firstInTruth_13 mf_8_154 (by decide) (by first | rfl | assumption | (simp only [*]; done)) ?_
    refine go_icc (t := 47) dX8_firstInTruth_16 (by decide) c2_ge (fun h1 => ?_) (fun h1 => ?_)
    · exact absurd h1 hc
    · have h1' := Int32.not_le.mp h1
      refine go_aload_n dX8_firstInTruth_19 rfl ?_
      refine go_gr dX8_firstInTruth_20 mf_8_35 rfl (by first | rfl | assumption | (simp only [*]; done)) (by first | rfl | assumption | (simp only [*]; done)) ?_
      refine go_iload_n dX8_firstInTruth_23 rfl ?_
      refine go_aal dX8_firstInTruth_24 (by first | rfl | assumption | (simp only [*]; done)) (by decide) hi8 hra ?_
      refine go_call (kind := 1) (args := [.ref _]) (rest := _) dX8_firstInTruth_25 (Or.inr (Or.inl ⟨rfl, rfl⟩)) mk_8_406 (by decide) me_31 rfl rfl rfl rfl rfl (mm_rc_of hr.1) (ok_X4_timeNow _ _ _ _ hr.1) rfl ?_
      refine go_istore (ls' := [some (.ref _), some (.int _), some (.int _), some (.int _), some (.int _)]) dX8_firstInTruth_28 rfl (Nat.le_of_ble_eq_true rfl) ?_
      refine go_iload dX8_firstInTruth_30 rfl ?_
      refine go_iload_n dX8_firstInTruth_32 rfl ?_
      refine go_icc (t := 41) dX8_firstInTruth_33 (by decide) c2_ge (fun h2 => ?_) (fun h2 => ?_)
      · have h2' := Int32.not_lt.mpr h2
        refine go_iinc (v := (1)) (ls' := [some (.ref _), some (.int _), some (.int _), some (.int _), some (.int _)]) dX8_firstInTruth_41 rfl (by decide) rfl ?_
        refine go_goto (t := 8) dX8_firstInTruth_44 (by decide) ?_
        (have hK := ih (i + 1) (some (.int (x_fiT I i))) (by omega)
         rw [nI_1]
         first | (rw [x_lst_f (T := x_fiT I) (n := i) h2] at hK; exact hK) | (rw [x_lst_t (T := x_fiT I) (n := i) h2] at hK; exact hK))
      · have h2' := Int32.not_le.mp h2
        refine go_iload dX8_firstInTruth_36 rfl ?_
        refine go_istore_n (ls' := [some (.ref _), some (.int _), some (.int _), some (.int _), some (.int _)]) dX8_firstInTruth_38 rfl (Nat.le_of_ble_eq_true rfl) ?_
        refine go_iload_n dX8_firstInTruth_39 rfl ?_
        refine go_istore_n (ls' := [some (.ref _), some (.int _), some (.int _), some (.int _), some (.int _)]) dX8_firstInTruth_40 rfl (Nat.le_of_ble_eq_true rfl) ?_
        refine go_iinc (v := (1)) (ls' := [some (.ref _), some (.int _), some (.int _), some (.int _), some (.int _)]) dX8_firstInTruth_41 rfl (by decide) rfl ?_
        refine go_goto (t := 8) dX8_firstInTruth_44 (by decide) ?_
        (have hK := ih (i + 1) (some (.int (x_fiT I i))) (by omega)
         rw [nI_1]
         first | (rw [x_lst_f (T := x_fiT I) (n := i) h2] at hK; exact hK) | (rw [x_lst_t (T := x_fiT I) (n := i) h2] at hK; exact hK))

set_option maxHeartbeats 1000000 in
theorem ok_X8_firstInTruth (d : Nat) (I : mI) (L : mL) (N : Nat) (h8 : N ≤ 8) (h1c : I 1 1 = nI N) : mm_Call (d + 2) 125 [.ref 0] (mm_sh, mm_R, I, L) (some (.int (x_lst 999 (x_fiT I) N).1)) (mm_sh, mm_R, I, L) := by
  refine mm_Call.of_go (d := d + 1) me_125 ⟨Nat.le_of_ble_eq_true rfl, rfl⟩ ?_
  show mm_Go mm_cs0 _ _ _ _ _ _ [some (.ref _), none, none, none, none] [] _ _ _
  refine go_pu (st' := .int (-1) :: _) dX8_firstInTruth_0 rfl ?_
  refine go_istore_n (ls' := [some (.ref _), some (.int _), none, none, none]) dX8_firstInTruth_1 rfl (Nat.le_of_ble_eq_true rfl) ?_
  refine go_pu (st' := .int (999) :: _) dX8_firstInTruth_2 rfl ?_
  refine go_istore_n (ls' := [some (.ref _), some (.int _), some (.int _), none, none]) dX8_firstInTruth_5 rfl (Nat.le_of_ble_eq_true rfl) ?_
  refine go_pu (st' := .int (0) :: _) dX8_firstInTruth_6 rfl ?_
  refine go_istore_n (ls' := [some (.ref _), some (.int _), some (.int _), some (.int _), none]) dX8_firstInTruth_7 rfl (Nat.le_of_ble_eq_true rfl) ?_
  exact lp_X8_firstInTruth _ I L N h8 h1c N 0 none (Nat.zero_add N)
