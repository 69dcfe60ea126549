/-! LAYER A: the race in truth, whole -/
def x_rbS (M : mI) (r : Nat) (c : Int32) : mI := sr (x_take M r 1 c) r (r_b (x_take M r 1 c) r 1)
/-- the first n racers at their starts -/
def x_rb (M : mI) : Nat → mI
  | 0 => M
  | n + 1 => x_rbS (x_rb M n) (92 + 2 * (nI n).toNatClampNeg) (nI n)
theorem x_take_k (M : mI) {r k : Nat} (c : Int32) (h1 : k ≠ r) (h2 : k ≠ r + 1) : x_take M r 1 c k = M k := by
  unfold x_take; rw [sr_other _ _ h1, sr_other _ _ h2]
theorem x_rb_o (M : mI) (n : Nat) {k : Nat} (h : k < 92) : x_rb M n k = M k := by
  induction n with
  | zero => rfl
  | succ n ih => rw [x_rb, x_rbS, sr_other _ _ (by omega), x_take_k _ _ (by omega) (by omega), ih]
/-- the seconds of a race -/
def x_rt (N : Nat) : Nat → mI → Int32 → mI
  | 0, M, _ => M
  | n + 1, M, h => if h ≤ 0 then M else x_rt N n (x_se M N).1 (x_se M N).2
theorem x_rt_1 (N n : Nat) (j : Nat) (hj : j ≠ 7) : ∀ (M : mI) (h : Int32), x_rt N n M h 1 j = M 1 j := by
  induction n with
  | zero => intro M h; rfl
  | succ n ih =>
    intro M h
    rw [x_rt]
    split
    · rfl
    · rw [ih, x_se_1 _ _ _ hj]
def x_rcA (M : mI) (N : Nat) : mI := x_rt N 999 (x_rb M N) (nI N)
def x_rcB (M : mI) (N : Nat) : mI := sr (x_rcA M N) 1 (upd (x_rcA M N 1) 6 (x_rcA M N 1 6 + 1))
def x_rcF (M : mI) (N : Nat) : Int32 := (x_lst 999 (x_fiT (x_rcB M N)) N).1
def x_rcM (M : mI) (N : Nat) : mI := if x_rcF M N = -1 then x_rcB M N else mm_u (x_rcB M N) (5 + (x_rcF M N).toNatClampNeg) 5 (x_rcB M N (5 + (x_rcF M N).toNatClampNeg) 5 + 1)
theorem x_lst_in (b : Int32) (T : Nat → Int32) (N : Nat) (h8 : N ≤ 8) : (x_lst b T N).1 = -1 ∨ mm_in (x_lst b T N).1 8 = true := by
  induction N with
  | zero => exact Or.inl rfl
  | succ n ih =>
    rw [x_lst]
    split
    · exact Or.inr (mm_in_8.mpr ⟨nI_pos' (by omega), nI_lt (b := 8) (by omega) (by omega)⟩)
    · exact ih (by omega)

set_option maxHeartbeats 1000000 in
theorem lp_X8_raceInTruthA (d : Nat) (I : mI) (L : mL) (N : Nat) (hf : fOk I N) (v : Option Value) (r0 : Option Value) (M0 : mm_M) (hK : mm_Go mm_cs0 (d + 4) 8 false (some .int) cX8_raceInTruth 46 [some (.ref 0), some (.int (nI N)), v] [] (mm_sh, mm_R, x_rb I N, L) r0 M0) : ∀ n i : Nat, i + n = N → mm_Go mm_cs0 (d + 4) 8 false (some .int) cX8_raceInTruth 2 [some (.ref 0), some (.int (nI i)), v] [] (mm_sh, mm_R, x_rb I i, L) r0 M0 := by
  have h1c : ∀ i, x_rb I i 1 1 = nI N := fun i => by rw [x_rb_o I i (by decide)]; exact hf.2.1
  have h8 := hf.1
  intro n
  induction n with
  | zero =>
    intro i hi
    obtain rfl : i = N := by omega
    have hc : x_rb I i 1 1 ≤ nI i := by rw [h1c]; exact Int32.le_refl _
    refine go_iload_n dX8_raceInTruth_2 rfl ?_
    refine go_aload_n dX8_raceInTruth_3 rfl ?_
    refine go_gr dX8_raceInTruth_4 mf_8_10 rfl (by first | rfl | assumption | (simp only [*]; done)) (by first | rfl | assumption | (simp only [*]; done)) ?_
    refine go_gi dX8_raceInTruth_7 mf_8_154 (by decide) (by first | rfl | assumption | (simp only [*]; done)) ?_
    refine go_icc (t := 46) dX8_raceInTruth_10 (by decide) c2_ge (fun h1 => ?_) (fun h1 => ?_)
    · have h1' := Int32.not_lt.mpr h1
      exact hK
    · exact absurd hc h1
  | succ n ih =>
    intro i hi
    have hc : ¬ x_rb I i 1 1 ≤ nI i := by rw [h1c]; exact nI_ge (by omega) (by omega)
    have hno : nOk (x_rb I i) (nI i) := (hf.of (J := x_rb I i) (fun k hk => x_rb_o I i (by omega))).n (by omega)
    have hi8 : mm_in (nI i) 8 = true := mm_in_8.mpr ⟨nI_pos' (by omega), nI_lt (b := 8) (by omega) (by omega)⟩
    obtain ⟨hr, hra⟩ := isRa_c _ (mm_in_lt hi8)
    have hk63 : x_take (x_rb I i) (92 + 2 * (nI i).toNatClampNeg) 1 (nI i) (92 + 2 * (nI i).toNatClampNeg + 1) 0 = x_rb I i (5 + (nI i).toNatClampNeg) 0 := by
      unfold x_take
      rw [sr_other _ _ (by omega), sr_same, c_become_0]
    refine go_iload_n dX8_raceInTruth_2 rfl ?_
    refine go_aload_n dX8_raceInTruth_3 rfl ?_
    refine go_gr dX8_raceInTruth_4 mf_8_10 rfl (by first | rfl | assumption | (simp only [*]; done)) (by first | rfl | assumption | (simp only [*]; done)) ?_
    refine go_gi dX8_raceInTruth_7 mf_8_154 (by decide) (by first | rfl | assumption | (simp only [*]; done)) ?_
    refine go_icc (t := 46) dX8_raceInTruth_10 (by decide) c2_ge (fun h1 => ?_) (fun h1 => ?_)
    · exact absurd h1 hc
    · have h1' := Int32.not_le.mp h1
      refine go_aload_n dX8_raceInTruth_13 rfl ?_
      refine go_gr dX8_raceInTruth_14 mf_8_35 rfl (by first | rfl | assumption | (simp only [*]; done)) (by first | rfl | assumption | (simp only [*]; done)) ?_
      refine go_iload_n dX8_raceInTruth_17 rfl ?_
      refine go_aal dX8_raceInTruth_18 (by first | rfl | assumption | (simp only [*]; done)) (by decide) hi8 hra ?_
      refine go_aload_n dX8_raceInTruth_19 rfl ?_
      refine go_gr dX8_raceInTruth_20 mf_8_10 rfl (by first | rfl | assumption | (simp only [*]; done)) (by first | rfl | assumption | (simp only [*]; done)) ?_
      refine go_iload_n dX8_raceInTruth_23 rfl ?_
      refine go_call (kind := 1) (args := [.ref _, .ref _, .int _]) (rest := _) dX8_raceInTruth_24 (Or.inr (Or.inl ⟨rfl, rfl⟩)) mk_8_167 (by decide) me_22 rfl rfl rfl rfl rfl (mm_rc_of hr.1) (ok_X4_take _ _ _ _ 1 _ hr isF_1 (by omega) hno.1 hno.2.1 hno.2.2.2.1) rfl ?_
      refine go_aload_n dX8_raceInTruth_27 rfl ?_
      refine go_gr dX8_raceInTruth_28 mf_8_35 rfl (by first | rfl | assumption | (simp only [*]; done)) (by first | rfl | assumption | (simp only [*]; done)) ?_
      refine go_iload_n dX8_raceInTruth_31 rfl ?_
      refine go_aal dX8_raceInTruth_32 (by first | rfl | assumption | (simp only [*]; done)) (by decide) hi8 hra ?_
      refine go_aload_n dX8_raceInTruth_33 rfl ?_
      refine go_gr dX8_raceInTruth_34 mf_8_10 rfl (by first | rfl | assumption | (simp only [*]; done)) (by first | rfl | assumption | (simp only [*]; done)) ?_
      refine go_call (kind := 1) (args := [.ref _, .ref _]) (rest := _) dX8_raceInTruth_37 (Or.inr (Or.inl ⟨rfl, rfl⟩)) mk_8_171 (by decide) me_23 rfl rfl rfl rfl rfl (mm_rc_of hr.1) (ok_X4_begin _ _ _ _ 1 hr isF_1 (by omega) (by rw [hk63]; exact hno.2.2.2.2) (by rw [x_take_k _ _ (by omega) (by omega)]; exact hno.2.2.1)) rfl ?_
      refine go_iinc (v := (1)) (ls' := [some (.ref _), some (.int _), _]) dX8_raceInTruth_40 rfl (by decide) rfl ?_
      refine go_goto (t := 2) dX8_raceInTruth_43 (by decide) ?_
      (rw [nI_1]; exact ih (i + 1) (by omega))

set_option maxHeartbeats 1000000 in
theorem lp_X8_raceInTruthB (d : Nat) (L : mL) (N : Nat) (h8 : N ≤ 8) (r0 : Option Value) (M0 : mm_M) : ∀ (n i : Nat) (h : Int32) (I : mI), i + n = 999 → I 1 1 = nI N → (∀ a b, mm_Go mm_cs0 (d + 4) 8 false (some .int) cX8_raceInTruth 78 [some (.ref 0), a, b] [] (mm_sh, mm_R, x_rt N n I h, L) r0 M0) → mm_Go mm_cs0 (d + 4) 8 false (some .int) cX8_raceInTruth 56 [some (.ref 0), some (.int h), some (.int (nI i))] [] (mm_sh, mm_R, I, L) r0 M0 := by
  intro n
  induction n with
  | zero =>
    intro i h I hi h1c hK
    obtain rfl : i = 999 := by omega
    have hc : (999 : Int32) ≤ nI 999 := by decide
    refine go_iload_n dX8_raceInTruth_56 rfl ?_
    refine go_pu (st' := .int (999) :: _) dX8_raceInTruth_57 rfl ?_
    refine go_icc (t := 78) dX8_raceInTruth_60 (by decide) c2_ge (fun h1 => ?_) (fun h1 => ?_)
    · have h1' := Int32.not_lt.mpr h1
      exact hK _ _
    · exact absurd hc h1
  | succ n ih =>
    intro i h I hi h1c hK
    have hc : ¬ (999 : Int32) ≤ nI i := nI_ge (a := i) (b := 999) (by omega) (by omega)
    refine go_iload_n dX8_raceInTruth_56 rfl ?_
    refine go_pu (st' := .int (999) :: _) dX8_raceInTruth_57 rfl ?_
    refine go_icc (t := 78) dX8_raceInTruth_60 (by decide) c2_ge (fun h1 => ?_) (fun h1 => ?_)
    · exact absurd h1 hc
    · have h1' := Int32.not_le.mp h1
      refine go_iload_n dX8_raceInTruth_63 rfl ?_
      refine go_ifc (t := 78) dX8_raceInTruth_64 (by decide) c1_le (fun h2 => ?_) (fun h2 => ?_)
      · have h2' := Int32.not_lt.mpr h2
        (rw [x_rt, if_pos h2] at hK; exact hK _ _)
      · have h2' := Int32.not_le.mp h2
        refine go_aload_n dX8_raceInTruth_67 rfl ?_
        refine go_call (kind := 1) (args := [.ref _]) (rest := _) dX8_raceInTruth_68 (Or.inr (Or.inl ⟨rfl, rfl⟩)) mk_8_384 (by decide) me_124 rfl rfl rfl rfl rfl (mm_rc_of (by first | rfl | assumption | (simp only [*]; done))) (ok_X8_secondInTruth _ _ _ N h8 h1c) rfl ?_
        refine go_istore_n (ls' := [some (.ref _), some (.int _), some (.int _)]) dX8_raceInTruth_71 rfl (Nat.le_of_ble_eq_true rfl) ?_
        refine go_iinc (v := (1)) (ls' := [some (.ref _), some (.int _), some (.int _)]) dX8_raceInTruth_72 rfl (by decide) rfl ?_
        refine go_goto (t := 56) dX8_raceInTruth_75 (by decide) ?_
        (rw [x_rt, if_neg h2] at hK; rw [nI_1]; exact ih (i + 1) _ _ (by omega) (by rw [x_se_1 _ _ _ (by decide)]; exact h1c) hK)

set_option maxHeartbeats 1000000 in
theorem ok_X8_raceInTruth (d : Nat) (I : mI) (L : mL) (N : Nat) (hf : fOk I N) : mm_Call (d + 5) 123 [.ref 0] (mm_sh, mm_R, I, L) (some (.int (x_rcF I N))) (mm_sh, mm_R, x_rcM I N, L) := by
  have h1b : x_rcB I N 1 1 = nI N := by
    rw [x_rcB, sr_same, up_o _ _ (by decide), x_rcA, x_rt_1 _ _ _ (by decide), x_rb_o _ _ (by decide)]
    exact hf.2.1
  have hB : mm_u (x_rcA I N) 1 6 (x_rcA I N 1 6 + 1) = x_rcB I N := mm_u_sr _ _ _ _
  refine mm_Call.of_go (d := d + 4) me_123 ⟨Nat.le_of_ble_eq_true rfl, rfl⟩ ?_
  show mm_Go mm_cs0 _ _ _ _ _ _ [some (.ref _), none, none] [] _ _ _
  refine go_pu (st' := .int (0) :: _) dX8_raceInTruth_0 rfl ?_
  refine go_istore_n (ls' := [some (.ref _), some (.int _), none]) dX8_raceInTruth_1 rfl (Nat.le_of_ble_eq_true rfl) ?_
  refine lp_X8_raceInTruthA d I L N hf none _ _ ?_ N 0 (Nat.zero_add N)
  refine go_aload_n dX8_raceInTruth_46 rfl ?_
  refine go_gr dX8_raceInTruth_47 mf_8_10 rfl (by first | rfl | assumption | (simp only [*]; done)) (by first | rfl | assumption | (simp only [*]; done)) ?_
  refine go_gi dX8_raceInTruth_50 mf_8_154 (by decide) (by first | rfl | assumption | (simp only [*]; done)) ?_
  refine go_istore_n (ls' := [some (.ref _), some (.int _), none]) dX8_raceInTruth_53 rfl (Nat.le_of_ble_eq_true rfl) ?_
  refine go_pu (st' := .int (0) :: _) dX8_raceInTruth_54 rfl ?_
  refine go_istore_n (ls' := [some (.ref _), some (.int _), some (.int _)]) dX8_raceInTruth_55 rfl (Nat.le_of_ble_eq_true rfl) ?_
  rw [x_rb_o I N (by decide), hf.2.1]
  refine lp_X8_raceInTruthB d L N hf.1 _ _ 999 0 (nI N) (x_rb I N) (by omega) (by rw [x_rb_o I N (by decide)]; exact hf.2.1) ?_
  intro va vb
  show mm_Go _ _ _ _ _ _ _ _ _ (mm_sh, mm_R, x_rcA I N, L) _ _
  refine go_aload_n dX8_raceInTruth_78 rfl ?_
  refine go_gr dX8_raceInTruth_79 mf_8_10 rfl (by first | rfl | assumption | (simp only [*]; done)) (by first | rfl | assumption | (simp only [*]; done)) ?_
  refine go_pu dX8_raceInTruth_82 rfl ?_
  refine go_gi dX8_raceInTruth_83 mf_8_356 (by decide) (by first | rfl | assumption | (simp only [*]; done)) ?_
  refine go_pu (st' := .int (1) :: _) dX8_raceInTruth_86 rfl ?_
  refine go_pu (st' := .int _ :: _) dX8_raceInTruth_87 rfl ?_
  refine go_pi dX8_raceInTruth_88 mf_8_356 rfl rfl (by first | rfl | assumption | (simp only [*]; done)) ?_
  rw [hB]
  refine go_aload_n dX8_raceInTruth_91 rfl ?_
  refine go_call (kind := 1) (args := [.ref _]) (rest := _) dX8_raceInTruth_92 (Or.inr (Or.inl ⟨rfl, rfl⟩)) mk_8_387 (by decide) me_125 rfl rfl rfl rfl rfl (mm_rc_of (by first | rfl | assumption | (simp only [*]; done))) (ok_X8_firstInTruth _ _ _ N hf.1 h1b) rfl ?_
  refine go_istore_n (ls' := [some (.ref _), _, some (.int _)]) dX8_raceInTruth_95 rfl (Nat.le_of_ble_eq_true rfl) ?_
  refine go_iload_n dX8_raceInTruth_96 rfl ?_
  refine go_pu (st' := .int (-1) :: _) dX8_raceInTruth_97 rfl ?_
  refine go_icc (t := 119) dX8_raceInTruth_98 (by decide) c2_eq (fun h1 => ?_) (fun h1 => ?_)
  · have hw : x_rcF I N = -1 := h1
    refine go_iload_n dX8_raceInTruth_119 rfl ?_
    refine go_iret dX8_raceInTruth_120 rfl ?_ ?_
    · first | with_reducible rfl | rfl | (rw [x_rcM, if_pos hw]; done) | (rw [x_rcM, if_neg hw]; done) | (rw [x_rcM, if_neg hw]; rfl)
    · first | with_reducible rfl | rfl | (rw [x_rcM, if_pos hw]; done) | (rw [x_rcM, if_neg hw]; done) | (rw [x_rcM, if_neg hw]; rfl)
  · have hw : ¬ x_rcF I N = -1 := h1
    have hin : mm_in (x_rcF I N) 8 = true := (x_lst_in _ _ _ hf.1).resolve_left hw
    obtain ⟨hj1, hj2, _, _⟩ := isF_1.2.2.2.2.2.2.2 _ (mm_in_lt hin)
    refine go_aload_n dX8_raceInTruth_101 rfl ?_
    refine go_gr dX8_raceInTruth_102 mf_8_10 rfl (by first | rfl | assumption | (simp only [*]; done)) (by first | rfl | assumption | (simp only [*]; done)) ?_
    refine go_gr dX8_raceInTruth_105 mf_8_138 rfl (by first | rfl | assumption | (simp only [*]; done)) (by first | rfl | assumption | (simp only [*]; done)) ?_
    refine go_iload_n dX8_raceInTruth_108 rfl ?_
    refine go_aal dX8_raceInTruth_109 (by first | rfl | assumption | (simp only [*]; done)) (by decide) hin hj1 ?_
    refine go_pu dX8_raceInTruth_110 rfl ?_
    refine go_gi dX8_raceInTruth_111 mf_8_200 (by decide) hj2 ?_
    refine go_pu (st' := .int (1) :: _) dX8_raceInTruth_114 rfl ?_
    refine go_pu (st' := .int _ :: _) dX8_raceInTruth_115 rfl ?_
    refine go_pi dX8_raceInTruth_116 mf_8_200 rfl rfl hj2 ?_
    refine go_iload_n dX8_raceInTruth_119 rfl ?_
    refine go_iret dX8_raceInTruth_120 rfl ?_ ?_
    · first | with_reducible rfl | rfl | (rw [x_rcM, if_pos hw]; done) | (rw [x_rcM, if_neg hw]; done) | (rw [x_rcM, if_neg hw]; rfl)
    · first | with_reducible rfl | rfl | (rw [x_rcM, if_pos hw]; done) | (rw [x_rcM, if_neg hw]; done) | (rw [x_rcM, if_neg hw]; rfl)
