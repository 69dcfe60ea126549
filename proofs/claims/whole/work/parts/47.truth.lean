/-! LAYER A: a race in truth -/
def x_dr (M : mI) : mI := sr M 1 (upd (M 1) 7 (i_next (M 1 7)))
def x_seS (p : mI × Int32) (r : Nat) : mI × Int32 :=
  if p.1 r 3 ≤ p.1 r 9 then p else
  if 0 < p.1 r 12 then (sr p.1 r (r_lie (p.1 r)), p.2 + 1) else
  if r_risk (x_dr p.1 r) ≤ i_draw (i_next (p.1 1 7)) 100 then (sr (x_dr p.1) r (r_hop (x_dr p.1 r) 0), p.2 + 1)
  else (sr (x_dr p.1) r (r_hop (x_dr p.1 r) 1), p.2 + 1)
/-- a second of the first n racers: the memory, and how many hopped or lay -/
def x_se (M : mI) : Nat → mI × Int32
  | 0 => (M, 0)
  | n + 1 => x_seS (x_se M n) (92 + 2 * (nI n).toNatClampNeg)
theorem x_seS_1 (p : mI × Int32) (r : Nat) (hr : 92 ≤ r) (j : Nat) (hj : j ≠ 7) : (x_seS p r).1 1 j = p.1 1 j := by
  have h1 : 1 ≠ r := by omega
  unfold x_seS
  split
  · rfl
  · split
    · show sr p.1 r _ 1 j = _; rw [sr_other _ _ h1]
    · split
      · show sr (x_dr p.1) r _ 1 j = _; rw [sr_other _ _ h1, x_dr, sr_same, up_o _ _ hj]
      · show sr (x_dr p.1) r _ 1 j = _; rw [sr_other _ _ h1, x_dr, sr_same, up_o _ _ hj]
theorem x_se_1 (M : mI) (n j : Nat) (hj : j ≠ 7) : (x_se M n).1 1 j = M 1 j := by
  induction n with
  | zero => rfl
  | succ n ih => rw [x_se, x_seS_1 _ _ (by omega) _ hj, ih]
theorem x_se_a {p : mI × Int32} {r : Nat} (h : p.1 r 3 ≤ p.1 r 9) : x_seS p r = p := if_pos h
theorem x_se_b {p : mI × Int32} {r : Nat} (h : ¬ p.1 r 3 ≤ p.1 r 9) (h2 : 0 < p.1 r 12) : x_seS p r = (sr p.1 r (r_lie (p.1 r)), p.2 + 1) := (if_neg h).trans (if_pos h2)
theorem x_se_c {p : mI × Int32} {r : Nat} (h : ¬ p.1 r 3 ≤ p.1 r 9) (h2 : ¬ 0 < p.1 r 12) (h3 : r_risk (x_dr p.1 r) ≤ i_draw (i_next (p.1 1 7)) 100) : x_seS p r = (sr (x_dr p.1) r (r_hop (x_dr p.1 r) 0), p.2 + 1) := (if_neg h).trans ((if_neg h2).trans (if_pos h3))
theorem x_se_d {p : mI × Int32} {r : Nat} (h : ¬ p.1 r 3 ≤ p.1 r 9) (h2 : ¬ 0 < p.1 r 12) (h3 : ¬ r_risk (x_dr p.1 r) ≤ i_draw (i_next (p.1 1 7)) 100) : x_seS p r = (sr (x_dr p.1) r (r_hop (x_dr p.1 r) 1), p.2 + 1) := (if_neg h).trans ((if_neg h2).trans (if_neg h3))

set_option maxHeartbeats 1000000 in
theorem lp_X8_secondInTruth (d : Nat) (I : mI) (L : mL) (N : Nat) (h8 : N ≤ 8) (h1c : I 1 1 = nI N) : ∀ (n i : Nat) (v : Option Value), i + n = N → mm_Go mm_cs0 (d + 1) 8 false (some .int) cX8_secondInTruth 4 [some (.ref 0), some (.int (x_se I i).2), some (.int (nI i)), v] [] (mm_sh, mm_R, (x_se I i).1, L) (some (.int (x_se I N).2)) (mm_sh, mm_R, (x_se I N).1, L) := by
  have h1d : ∀ i, (x_se I i).1 1 1 = nI N := fun i => by rw [x_se_1 _ _ _ (by decide)]; exact h1c
  intro n
  induction n with
  | zero =>
    intro i v hi
    obtain rfl : i = N := by omega
    have hc : (x_se I i).1 1 1 ≤ nI i := by rw [h1d]; exact Int32.le_refl _
    refine go_iload_n dX8_secondInTruth_4 rfl ?_
    refine go_aload_n dX8_secondInTruth_5 rfl ?_
    refine go_gr dX8_secondInTruth_6 mf_8_10 rfl (by first | rfl | assumption | (simp only [*]; done)) (by first | rfl | assumption | (simp only [*]; done)) ?_
    refine go_gi dX8_secondInTruth_9 mf_8_154 (by decide) (by first | rfl | assumption | (simp only [*]; done)) ?_
    refine go_icc (t := 81) dX8_secondInTruth_12 (by decide) c2_ge (fun h1 => ?_) (fun h1 => ?_)
    · have h1' := Int32.not_lt.mpr h1
      refine go_iload_n dX8_secondInTruth_81 rfl ?_
      refine go_iret dX8_secondInTruth_82 rfl ?_ ?_
      · first | with_reducible rfl | rfl
      · first | with_reducible rfl | rfl
    · exact absurd hc h1
  | succ n ih =>
    intro i v hi
    have hc : ¬ (x_se I i).1 1 1 ≤ nI i := by rw [h1d]; exact nI_ge (by omega) (by omega)
    have hi8 : mm_in (nI i) 8 = true := mm_in_8.mpr ⟨nI_pos' (by omega), nI_lt (b := 8) (by omega) (by omega)⟩
    obtain ⟨hr, hra⟩ := isRa_c _ (mm_in_lt hi8)
    refine go_iload_n dX8_secondInTruth_4 rfl ?_
    refine go_aload_n dX8_secondInTruth_5 rfl ?_
    refine go_gr dX8_secondInTruth_6 mf_8_10 rfl rfl (by first | rfl | assumption | (simp only [*]; done)) ?_
    refine go_gi dX8_secondInTruth_9 mf_8_154 (by decide) rfl ?_
    refine go_icc (t := 81) dX8_secondInTruth_12 (by decide) c2_ge (fun h1 => ?_) (fun h1 => ?_)
    · exact absurd h1 hc
    · have h1' := Int32.not_le.mp h1
      refine go_aload_n dX8_secondInTruth_15 rfl ?_
      refine go_gr dX8_secondInTruth_16 mf_8_35 rfl rfl (by first | rfl | assumption | (simp only [*]; done)) ?_
      refine go_iload_n dX8_secondInTruth_19 rfl ?_
      refine go_aal dX8_secondInTruth_20 (by first | rfl | assumption | (simp only [*]; done)) (by decide) hi8 hra ?_
      refine go_astore_n (ls' := [some (.ref _), some (.int _), some (.int _), some (.ref _)]) dX8_secondInTruth_21 rfl (Nat.le_of_ble_eq_true rfl) ?_
      refine go_aload_n dX8_secondInTruth_22 rfl ?_
      refine go_gi dX8_secondInTruth_23 mf_8_254 (by decide) hr.1 ?_
      refine go_aload_n dX8_secondInTruth_26 rfl ?_
      refine go_gi dX8_secondInTruth_27 mf_8_390 (by decide) hr.1 ?_
      refine go_icc (t := 75) dX8_secondInTruth_30 (by decide) c2_ge (fun h2 => ?_) (fun h2 => ?_)
      · have h2' := Int32.not_lt.mpr h2
        refine go_iinc (v := (1)) (ls' := [some (.ref _), some (.int _), some (.int _), some (.ref _)]) dX8_secondInTruth_75 rfl (by decide) rfl ?_
        refine go_goto (t := 4) dX8_secondInTruth_78 (by decide) ?_
        (have hK := ih (i + 1) (some (.ref (92 + 2 * (nI i).toNatClampNeg))) (by omega)
         rw [x_se] at hK
         rw [nI_1]
         first | (rw [x_se_a h2] at hK; exact hK) | (rw [x_se_b h2 (Int32.not_le.mp h3)] at hK; exact hK) | (rw [x_se_b h2 h3] at hK; exact hK) | (rw [x_se_c h2 hl h4] at hK; exact hK) | (rw [x_se_d h2 hl h4] at hK; exact hK))
      · have h2' := Int32.not_le.mp h2
        refine go_iinc (v := (1)) (ls' := [some (.ref _), some (.int _), some (.int _), some (.ref _)]) dX8_secondInTruth_33 rfl (by decide) rfl ?_
        refine go_aload_n dX8_secondInTruth_36 rfl ?_
        refine go_gi dX8_secondInTruth_37 mf_8_262 (by decide) hr.1 ?_
        refine go_ifc (t := 50) dX8_secondInTruth_40 (by decide) c1_le (fun h3 => ?_) (fun h3 => ?_)
        · have h3' := Int32.not_lt.mpr h3
          have hl := h3'
          refine go_aload_n dX8_secondInTruth_50 rfl ?_
          refine go_aload_n dX8_secondInTruth_51 rfl ?_
          refine go_gr dX8_secondInTruth_52 mf_8_10 rfl rfl (by first | rfl | assumption | (simp only [*]; done)) ?_
          refine go_pu (st' := .int (100) :: _) dX8_secondInTruth_55 rfl ?_
          refine go_call (kind := 1) (args := [.ref _, .int _]) (rest := _) dX8_secondInTruth_57 (Or.inr (Or.inl ⟨rfl, rfl⟩)) mk_8_396 (by decide) me_8 rfl rfl rfl rfl rfl (mm_rc_of rfl) (ok_X1_draw _ _ _ 1 isF_1.1 100 (by decide) (by decide)) rfl ?_
          refine go_aload_n dX8_secondInTruth_60 rfl ?_
          refine go_call (kind := 1) (args := [.ref _]) (rest := _) dX8_secondInTruth_61 (Or.inr (Or.inl ⟨rfl, rfl⟩)) mk_8_399 (by decide) me_26 rfl rfl rfl rfl rfl (mm_rc_of hr.1) (ok_X4_riskNow _ _ _ _ hr.1) rfl ?_
          refine go_icc (t := 71) dX8_secondInTruth_64 (by decide) c2_ge (fun h4 => ?_) (fun h4 => ?_)
          · have h4' := Int32.not_lt.mpr h4
            refine go_pu (st' := .int (0) :: _) dX8_secondInTruth_71 rfl ?_
            refine go_call (kind := 1) (args := [.ref _, .int _]) (rest := _) dX8_secondInTruth_72 (Or.inr (Or.inl ⟨rfl, rfl⟩)) mk_8_402 (by decide) me_28 rfl rfl rfl rfl rfl (mm_rc_of hr.1) (ok_X4_hop _ _ _ _ hr.1 _) rfl ?_
            refine go_iinc (v := (1)) (ls' := [some (.ref _), some (.int _), some (.int _), some (.ref _)]) dX8_secondInTruth_75 rfl (by decide) rfl ?_
            refine go_goto (t := 4) dX8_secondInTruth_78 (by decide) ?_
            (have hK := ih (i + 1) (some (.ref (92 + 2 * (nI i).toNatClampNeg))) (by omega)
             rw [x_se] at hK
             rw [nI_1]
             first | (rw [x_se_a h2] at hK; exact hK) | (rw [x_se_b h2 (Int32.not_le.mp h3)] at hK; exact hK) | (rw [x_se_b h2 h3] at hK; exact hK) | (rw [x_se_c h2 hl h4] at hK; exact hK) | (rw [x_se_d h2 hl h4] at hK; exact hK))
          · have h4' := Int32.not_le.mp h4
            refine go_pu (st' := .int (1) :: _) dX8_secondInTruth_67 rfl ?_
            refine go_goto (t := 72) dX8_secondInTruth_68 (by decide) ?_
            refine go_call (kind := 1) (args := [.ref _, .int _]) (rest := _) dX8_secondInTruth_72 (Or.inr (Or.inl ⟨rfl, rfl⟩)) mk_8_402 (by decide) me_28 rfl rfl rfl rfl rfl (mm_rc_of hr.1) (ok_X4_hop _ _ _ _ hr.1 _) rfl ?_
            refine go_iinc (v := (1)) (ls' := [some (.ref _), some (.int _), some (.int _), some (.ref _)]) dX8_secondInTruth_75 rfl (by decide) rfl ?_
            refine go_goto (t := 4) dX8_secondInTruth_78 (by decide) ?_
            (have hK := ih (i + 1) (some (.ref (92 + 2 * (nI i).toNatClampNeg))) (by omega)
             rw [x_se] at hK
             rw [nI_1]
             first | (rw [x_se_a h2] at hK; exact hK) | (rw [x_se_b h2 (Int32.not_le.mp h3)] at hK; exact hK) | (rw [x_se_b h2 h3] at hK; exact hK) | (rw [x_se_c h2 hl h4] at hK; exact hK) | (rw [x_se_d h2 hl h4] at hK; exact hK))
        · have h3' := Int32.not_le.mp h3
          refine go_aload_n dX8_secondInTruth_43 rfl ?_
          refine go_call (kind := 1) (args := [.ref _]) (rest := _) dX8_secondInTruth_44 (Or.inr (Or.inl ⟨rfl, rfl⟩)) mk_8_393 (by decide) me_27 rfl rfl rfl rfl rfl (mm_rc_of hr.1) (ok_X4_lie _ _ _ _ hr.1) rfl ?_
          refine go_goto (t := 75) dX8_secondInTruth_47 (by decide) ?_
          refine go_iinc (v := (1)) (ls' := [some (.ref _), some (.int _), some (.int _), some (.ref _)]) dX8_secondInTruth_75 rfl (by decide) rfl ?_
          refine go_goto (t := 4) dX8_secondInTruth_78 (by decide) ?_
          (have hK := ih (i + 1) (some (.ref (92 + 2 * (nI i).toNatClampNeg))) (by omega)
           rw [x_se] at hK
           rw [nI_1]
           first | (rw [x_se_a h2] at hK; exact hK) | (rw [x_se_b h2 (Int32.not_le.mp h3)] at hK; exact hK) | (rw [x_se_b h2 h3] at hK; exact hK) | (rw [x_se_c h2 hl h4] at hK; exact hK) | (rw [x_se_d h2 hl h4] at hK; exact hK))

set_option maxHeartbeats 1000000 in
theorem ok_X8_secondInTruth (d : Nat) (I : mI) (L : mL) (N : Nat) (h8 : N ≤ 8) (h1c : I 1 1 = nI N) : mm_Call (d + 2) 124 [.ref 0] (mm_sh, mm_R, I, L) (some (.int (x_se I N).2)) (mm_sh, mm_R, (x_se I N).1, L) := by
  refine mm_Call.of_go (d := d + 1) me_124 ⟨Nat.le_of_ble_eq_true rfl, rfl⟩ ?_
  show mm_Go mm_cs0 _ _ _ _ _ _ [some (.ref _), none, none, none] [] _ _ _
  refine go_pu (st' := .int (0) :: _) dX8_secondInTruth_0 rfl ?_
  refine go_istore_n (ls' := [some (.ref _), some (.int _), none, none]) dX8_secondInTruth_1 rfl (Nat.le_of_ble_eq_true rfl) ?_
  refine go_pu (st' := .int (0) :: _) dX8_secondInTruth_2 rfl ?_
  refine go_istore_n (ls' := [some (.ref _), some (.int _), some (.int _), none]) dX8_secondInTruth_3 rfl (Nat.le_of_ble_eq_true rfl) ?_
  exact lp_X8_secondInTruth _ I L N h8 h1c N 0 none (Nat.zero_add N)
