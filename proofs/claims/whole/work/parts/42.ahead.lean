/-! LAYER A: the least ahead -/
theorem nI_cl {x : Int32} (h : 0 ≤ x) : nI x.toNatClampNeg = x := by
  apply Int32.toInt_inj.mp
  have h0 : 0 ≤ x.toInt := Int32.le_iff_toInt_le.mp h
  have h1 : x.toNatClampNeg < 2 ^ 31 := by
    have := Int32.toInt_lt x
    unfold Int32.toNatClampNeg
    omega
  rw [nI_toInt h1]
  exact Int.toNat_of_nonneg h0
theorem cl_lt (x : Int32) : x.toNatClampNeg < 2 ^ 31 := by
  have := Int32.toInt_lt x
  unfold Int32.toNatClampNeg
  omega
def x_lafJ (I : mI) : mI := sr I 63 (upd (I 63) 4 0)
def x_lafb (I : mI) : mRow := r_b (x_lafJ I) 62 1
def x_lafs (I : mI) (t : Int32) : mRow := r_secs (t - x_lafb I 5).toNatClampNeg (x_lafb I)
def x_laf (I : mI) (t : Int32) : Int32 := if 999 ≤ t then 0 else if t - x_lafb I 5 < 0 then -1 else if 99 < i_max 0 (x_lafs I t 3 - x_lafs I t 9) then -1 else i_max 0 (x_lafs I t 3 - x_lafs I t 9)
theorem i_maxs (I : mI) (t : Int32) : i_max 0 (sr (x_lafJ I) 62 (x_lafs I t) 62 3 - sr (x_lafJ I) 62 (x_lafs I t) 62 9) = i_max 0 (x_lafs I t 3 - x_lafs I t 9) := by rw [sr_same]
def x_lafM (I : mI) (t : Int32) : mI := if 999 ≤ t then I else if t - x_lafb I 5 < 0 then sr (x_lafJ I) 62 (x_lafb I) else sr (x_lafJ I) 62 (x_lafs I t)

set_option maxHeartbeats 1000000 in
theorem lp_X4_leastAheadFor (d : Nat) (L : mL) (hr : mm_sh[62]? = some (4, 0)) (N : Nat) (hN : N < 2 ^ 31) (t : Int32) (r0 : Option Value) (M0 : mm_M) : ∀ (n i : Nat) (I : mI), i + n = N → (mm_Go mm_cs0 (d + 3) 4 false (some .int) cX4_leastAheadFor 54 [some (.ref 62), some (.ref 1), some (.int t), some (.int (nI N)), some (.int (nI N))] [] (mm_sh, mm_R, sr I 62 (r_secs n (I 62)), L) r0 M0) → mm_Go mm_cs0 (d + 3) 4 false (some .int) cX4_leastAheadFor 38 [some (.ref 62), some (.ref 1), some (.int t), some (.int (nI N)), some (.int (nI i))] [] (mm_sh, mm_R, I, L) r0 M0 := by
  intro n
  induction n with
  | zero =>
    intro i I hi hK
    obtain rfl : i = N := by omega
    have hc : nI i ≤ nI i := Int32.le_refl _
    refine go_iload dX4_leastAheadFor_38 rfl ?_
    refine go_iload_n dX4_leastAheadFor_40 rfl ?_
    refine go_icc (t := 54) dX4_leastAheadFor_41 (by decide) c2_ge (fun h1 => ?_) (fun h1 => ?_)
    · have h1' := Int32.not_lt.mpr h1
      simpa [r_secs, sr_id] using hK
    · exact absurd hc h1
  | succ n ih =>
    intro i I hi hK
    have hc : ¬ nI N ≤ nI i := nI_ge (by omega) hN
    refine go_iload dX4_leastAheadFor_38 rfl ?_
    refine go_iload_n dX4_leastAheadFor_40 rfl ?_
    refine go_icc (t := 54) dX4_leastAheadFor_41 (by decide) c2_ge (fun h1 => ?_) (fun h1 => ?_)
    · exact absurd h1 hc
    · have h1' := Int32.not_le.mp h1
      refine go_aload_n dX4_leastAheadFor_44 rfl ?_
      refine go_call (kind := 1) (args := [.ref _]) (rest := _) dX4_leastAheadFor_45 (Or.inr (Or.inl ⟨rfl, rfl⟩)) mk_4_149 (by decide) me_29 rfl rfl rfl rfl rfl (mm_rc_of (by first | rfl | assumption | (simp only [*]; done))) (ok_X4_goASecond _ _ _ _ hr) rfl ?_
      refine go_iinc (v := (1)) (ls' := [some (.ref _), some (.ref _), some (.int _), some (.int _), some (.int _)]) dX4_leastAheadFor_48 rfl (by decide) rfl ?_
      refine go_goto (t := 38) dX4_leastAheadFor_51 (by decide) ?_
      (rw [nI_1]; exact ih (i + 1) (sr I 62 (r_sec (I 62))) (by omega) (by simpa [r_secs, sr_sr, sr_same] using hK))

set_option maxHeartbeats 1000000 in
theorem ok_X4_leastAheadFor (d : Nat) (I : mI) (L : mL) (t : Int32) (hk : isKd (I 63 0)) (hsc : I 1 3 ≤ 8) : mm_Call (d + 4) 33 [.ref 62, .ref 1, .int t] (mm_sh, mm_R, I, L) (some (.int (x_laf I t))) (mm_sh, mm_R, x_lafM I t, L) := by
  have hr := isRa_62.1
  have hB : mm_Call (d + 3) 23 [.ref 62, .ref 1] (mm_sh, mm_R, mm_u I 63 4 0, L) none (mm_sh, mm_R, sr (x_lafJ I) 62 (x_lafb I), L) := by
    rw [mm_u_sr]
    exact ok_X4_begin _ _ _ 62 1 isRa_62 isF_1 (by decide) (by simpa [sr_same, sr_other, up_s, up_o] using hk) (by simpa [sr_same, sr_other] using hsc)
  have hF : ∀ n : Int32, ¬ 999 ≤ t → ¬ t - x_lafb I 5 < 0 → mm_Go mm_cs0 (d + 3) 4 false (some .int) cX4_leastAheadFor 54 [some (.ref 62), some (.ref 1), some (.int t), some (.int n), some (.int n)] [] (mm_sh, mm_R, sr (x_lafJ I) 62 (x_lafs I t), L) (some (.int (x_laf I t))) (mm_sh, mm_R, x_lafM I t, L) := by
    intro n q1 q2
    refine go_pu (st' := .int (0) :: _) dX4_leastAheadFor_54 rfl ?_
    refine go_aload_n dX4_leastAheadFor_55 rfl ?_
    refine go_gi dX4_leastAheadFor_56 mf_4_98 (by decide) (by first | rfl | assumption | (simp only [*]; done)) ?_
    refine go_aload_n dX4_leastAheadFor_59 rfl ?_
    refine go_gi dX4_leastAheadFor_60 mf_4_117 (by decide) (by first | rfl | assumption | (simp only [*]; done)) ?_
    refine go_pu (st' := .int _ :: _) dX4_leastAheadFor_63 rfl ?_
    refine go_bi (kind := 0) (args := [.int _, .int _]) (rest := _) dX4_leastAheadFor_64 (Or.inl ⟨rfl, rfl⟩) mk_4_104 (by decide) rfl rfl rfl rfl rfl rfl ?_
    refine go_istore (ls' := [some (.ref _), some (.ref _), some (.int _), some (.int _), some (.int _)]) dX4_leastAheadFor_67 rfl (Nat.le_of_ble_eq_true rfl) ?_
    refine go_iload dX4_leastAheadFor_69 rfl ?_
    refine go_pu (st' := .int (99) :: _) dX4_leastAheadFor_71 rfl ?_
    refine go_icc (t := 80) dX4_leastAheadFor_73 (by decide) c2_le (fun h1 => ?_) (fun h1 => ?_)
    · have h1' := Int32.not_lt.mpr h1
      have hq : ¬ 99 < i_max 0 (x_lafs I t 3 - x_lafs I t 9) := by rw [← i_maxs]; exact h1'
      refine go_iload dX4_leastAheadFor_80 rfl ?_
      refine go_iret dX4_leastAheadFor_82 rfl ?_ ?_
      · first | with_reducible rfl | (simp only [x_lafM, if_neg q1, if_neg q2]; done) | (rw [x_laf, if_neg q1, if_neg q2, if_neg hq]; rfl) | (rw [x_laf, if_neg q1, if_neg q2, if_pos hq])
      · first | with_reducible rfl | (simp only [x_lafM, if_neg q1, if_neg q2]; done) | (rw [x_laf, if_neg q1, if_neg q2, if_neg hq]; rfl) | (rw [x_laf, if_neg q1, if_neg q2, if_pos hq])
    · have h1' := Int32.not_le.mp h1
      have hq : 99 < i_max 0 (x_lafs I t 3 - x_lafs I t 9) := by rw [← i_maxs]; exact h1'
      refine go_pu (st' := .int (-1) :: _) dX4_leastAheadFor_76 rfl ?_
      refine go_goto (t := 82) dX4_leastAheadFor_77 (by decide) ?_
      refine go_iret dX4_leastAheadFor_82 rfl ?_ ?_
      · first | with_reducible rfl | (simp only [x_lafM, if_neg q1, if_neg q2]; done) | (rw [x_laf, if_neg q1, if_neg q2, if_neg hq]; rfl) | (rw [x_laf, if_neg q1, if_neg q2, if_pos hq])
      · first | with_reducible rfl | (simp only [x_lafM, if_neg q1, if_neg q2]; done) | (rw [x_laf, if_neg q1, if_neg q2, if_neg hq]; rfl) | (rw [x_laf, if_neg q1, if_neg q2, if_pos hq])
  refine mm_Call.of_go (d := d + 3) me_33 ⟨Nat.le_of_ble_eq_true rfl, rfl⟩ ?_
  show mm_Go mm_cs0 _ _ _ _ _ _ [some (.ref _), some (.ref _), some (.int _), none, none] [] _ _ _
  refine go_iload_n dX4_leastAheadFor_0 rfl ?_
  refine go_pu (st' := .int (999) :: _) dX4_leastAheadFor_1 rfl ?_
  refine go_icc (t := 9) dX4_leastAheadFor_4 (by decide) c2_lt (fun h1 => ?_) (fun h1 => ?_)
  · have h1' := Int32.not_le.mpr h1
    refine go_aload_n dX4_leastAheadFor_9 rfl ?_
    refine go_gr dX4_leastAheadFor_10 mf_4_12 rfl (by first | rfl | assumption | (simp only [*]; done)) (by first | rfl | assumption | (simp only [*]; done)) ?_
    refine go_pu (st' := .int (0) :: _) dX4_leastAheadFor_13 rfl ?_
    refine go_pi dX4_leastAheadFor_14 mf_4_114 rfl rfl (by first | rfl | assumption | (simp only [*]; done)) ?_
    refine go_aload_n dX4_leastAheadFor_17 rfl ?_
    refine go_aload_n dX4_leastAheadFor_18 rfl ?_
    refine go_call (kind := 1) (args := [.ref _, .ref _]) (rest := _) dX4_leastAheadFor_19 (Or.inr (Or.inl ⟨rfl, rfl⟩)) mk_4_152 (by decide) me_23 rfl rfl rfl rfl rfl (mm_rc_of (by first | rfl | assumption | (simp only [*]; done))) hB rfl ?_
    refine go_iload_n dX4_leastAheadFor_22 rfl ?_
    refine go_aload_n dX4_leastAheadFor_23 rfl ?_
    refine go_gi dX4_leastAheadFor_24 mf_4_108 (by decide) (by first | rfl | assumption | (simp only [*]; done)) ?_
    refine go_pu (st' := .int _ :: _) dX4_leastAheadFor_27 rfl ?_
    refine go_istore_n (ls' := [some (.ref _), some (.ref _), some (.int _), some (.int _), none]) dX4_leastAheadFor_28 rfl (Nat.le_of_ble_eq_true rfl) ?_
    refine go_iload_n dX4_leastAheadFor_29 rfl ?_
    refine go_ifc (t := 35) dX4_leastAheadFor_30 (by decide) c1_ge (fun h2 => ?_) (fun h2 => ?_)
    · have h2' := Int32.not_lt.mpr h2
      refine go_pu (st' := .int (0) :: _) dX4_leastAheadFor_35 rfl ?_
      refine go_istore (ls' := [some (.ref _), some (.ref _), some (.int _), some (.int _), some (.int _)]) dX4_leastAheadFor_36 rfl (Nat.le_of_ble_eq_true rfl) ?_
      have h2'' := h2
      rw [sr_same] at h2''
      have hcl := nI_cl h2''
      have hlp := lp_X4_leastAheadFor d L isRa_62.1 (t - x_lafb I 5).toNatClampNeg (cl_lt _) t (some (.int (x_laf I t))) (mm_sh, mm_R, x_lafM I t, L) (t - x_lafb I 5).toNatClampNeg 0 (sr (x_lafJ I) 62 (x_lafb I)) (Nat.zero_add _)
      rw [hcl] at hlp
      simp only [sr_same] at hlp ⊢
      refine hlp ?_
      rw [sr_sr]
      refine hF _ ?_ ?_
      · exact h1'
      · exact h2' 
    · have h2' := Int32.not_le.mp h2
      refine go_pu (st' := .int (-1) :: _) dX4_leastAheadFor_33 rfl ?_
      refine go_iret dX4_leastAheadFor_34 rfl ?_ ?_
      · first | with_reducible rfl | (simp only [x_laf, x_lafM, if_pos h1', if_neg h1, sr_same]; done) | (simp only [sr_same] at h2'; simp only [x_laf, x_lafM, if_neg h1', if_pos h2']; done)
      · first | with_reducible rfl | (simp only [x_laf, x_lafM, if_pos h1', if_neg h1, sr_same]; done) | (simp only [sr_same] at h2'; simp only [x_laf, x_lafM, if_neg h1', if_pos h2']; done)
  · have h1' := Int32.not_lt.mp h1
    refine go_pu (st' := .int (0) :: _) dX4_leastAheadFor_7 rfl ?_
    refine go_iret dX4_leastAheadFor_8 rfl ?_ ?_
    · first | with_reducible rfl | (simp only [x_laf, x_lafM, if_pos h1', if_neg h1, sr_same]; done) | (simp only [sr_same] at h2'; simp only [x_laf, x_lafM, if_neg h1', if_pos h2']; done)
    · first | with_reducible rfl | (simp only [x_laf, x_lafM, if_pos h1', if_neg h1, sr_same]; done) | (simp only [sr_same] at h2'; simp only [x_laf, x_lafM, if_neg h1', if_pos h2']; done)
