/-! LAYER A: all times, the winner, the lead -/
/-- the class's now as a time needs it, N children -/
def fOk (I : mI) (N : Nat) : Prop := N ≤ 8 ∧ I 1 1 = nI N ∧ I 1 3 ≤ 8 ∧ (I 1 5 = 0 ∨ I 1 5 = 1) ∧ ∀ c, c < N → isKd (I (5 + c) 0)
theorem fOk.n {I : mI} {N i : Nat} (h : fOk I N) (hi : i < N) : nOk I (nI i) := by
  obtain ⟨h1, h2, h3, h4, h5⟩ := h
  refine ⟨⟨nI_pos' (by omega), ?_⟩, ?_, h3, h4, ?_⟩
  · rw [h2]; exact nI_lt hi (by omega)
  · rw [h2]; exact nI_le (b := 8) h1 (by omega)
  · rw [nI_clamp (by omega)]; exact h5 i hi
theorem fOk.c {I : mI} {N : Nat} (h : fOk I N) {c : Int32} (hc : 0 ≤ c ∧ c < I 1 1) : c.toNatClampNeg < N ∧ nI c.toNatClampNeg = c := by
  have e := nI_cl hc.1
  refine ⟨?_, e⟩
  have h2 := hc.2
  rw [h.2.1, ← e] at h2
  by_cases q : c.toNatClampNeg < N
  · exact q
  · exact absurd h2 (nI_nlt (Nat.le_of_not_lt q) (cl_lt c))
theorem fOk.nC {I : mI} {N : Nat} (h : fOk I N) {c : Int32} (hc : 0 ≤ c ∧ c < I 1 1) : nOk I c := by
  have := h.n (h.c hc).1
  rw [(h.c hc).2] at this
  exact this
theorem fOk.of {I J : mI} {N : Nat} (h : fOk I N) (hJ : ∀ k, k < 21 → J k = I k) : fOk J N := by
  obtain ⟨h1, h2, h3, h4, h5⟩ := h
  refine ⟨h1, ?_, ?_, ?_, ?_⟩
  · rw [hJ 1 (by omega)]; exact h2
  · rw [hJ 1 (by omega)]; exact h3
  · rw [hJ 1 (by omega)]; exact h4
  · intro c hc; rw [hJ _ (by omega)]; exact h5 c hc
theorem x_end_take (I : mI) (c : Int32) {k : Nat} (h1 : k ≠ 62) (h2 : k ≠ 63) : x_end (x_take I 62 1 c) k = I k := by
  rw [x_end, sr_other _ _ h1, x_take_o _ _ h1 h2]
theorem x_end_as (I : mI) (c t : Int32) {k : Nat} (h1 : k ≠ 62) (h2 : k ≠ 63) : x_end (x_as I c t) k = I k := by
  rw [x_end, sr_other _ _ h1, x_as, sr_other _ _ h2, x_take_o _ _ h1 h2]
theorem x_end_inn (I : mI) (c t : Int32) {k : Nat} (h1 : k ≠ 62) (h2 : k ≠ 63) : x_end (x_inn I c t) k = I k := by
  rw [x_end, sr_other _ _ h1, x_inn, sr_other _ _ h2, x_take_o _ _ h1 h2]
theorem x_end_rol (I : mI) (c t : Int32) {k : Nat} (h1 : k ≠ 62) (h2 : k ≠ 63) : x_end (x_rol I c t) k = I k := by
  rw [x_end, sr_other _ _ h1, x_rol, sr_other _ _ h1, x_take_o _ _ h1 h2]
theorem x_end_two (I : mI) (c e t : Int32) {k : Nat} (h1 : k ≠ 62) (h2 : k ≠ 63) : x_end (x_two I c e t) k = I k := by
  rw [x_end, sr_other _ _ h1]
  simp only [x_two]
  rw [sr_other _ _ h1, sr_other _ _ h2, x_take_o _ _ h1 h2]
/-- the times of the first n children in cell 73 -/
def x_all : Nat → mI → mI
  | 0, I => I
  | n + 1, I => mm_u (x_end (x_take (x_all n I) 62 1 (nI n))) 73 (nI n).toNatClampNeg (x_tim (x_take (x_all n I) 62 1 (nI n)))
theorem x_all_o (n : Nat) (I : mI) {k : Nat} (h1 : k ≠ 62) (h2 : k ≠ 63) (h3 : k ≠ 73) : x_all n I k = I k := by
  induction n with
  | zero => rfl
  | succ n ih => rw [x_all, mm_u_sr, sr_other _ _ h3, x_end_take _ _ h1 h2, ih]
/-- who is first of the first n -/
def x_win : Nat → mRow → Nat
  | 0, _ => 0
  | n + 1, ρ => if n = 0 then 0 else if ρ n < ρ (x_win n ρ) then n else x_win n ρ
theorem x_win_lt (n : Nat) (ρ : mRow) : 0 < n → x_win n ρ < n := by
  induction n with
  | zero => omega
  | succ n ih =>
    intro _
    rw [x_win]
    split
    · omega
    · split
      · omega
      · have := ih (by omega); omega
def x_nxt (w : Int32) (ρ : mRow) : Nat → Int32
  | 0 => 1000
  | n + 1 => if nI n = w then x_nxt w ρ n else i_min (x_nxt w ρ n) (ρ n)
def x_lead (w : Int32) (ρ : mRow) (n : Nat) : Int32 := if x_nxt w ρ n ≤ 999 then x_nxt w ρ n - ρ w.toNatClampNeg else 0

set_option maxHeartbeats 1000000 in
theorem lp_X8_timeAll (d : Nat) (I : mI) (L : mL) (N : Nat) (hf : fOk I N) : ∀ n i : Nat, i + n = N → mm_Go mm_cs0 (d + 5) 8 false none cX8_timeAll 2 [some (.ref 0), some (.int (nI i))] [] (mm_sh, mm_R, x_all i I, L) none (mm_sh, mm_R, x_all N I, L) := by
  have h1c : ∀ i, x_all i I 1 1 = nI N := fun i => by rw [x_all_o i I (by decide) (by decide) (by decide)]; exact hf.2.1
  have h8 := hf.1
  intro n
  induction n with
  | zero =>
    intro i hi
    obtain rfl : i = N := by omega
    have hc : x_all i I 1 1 ≤ nI i := by rw [h1c]; exact Int32.le_refl _
    refine go_iload_n dX8_timeAll_2 rfl ?_
    refine go_aload_n dX8_timeAll_3 rfl ?_
    refine go_gr dX8_timeAll_4 mf_8_10 rfl (by first | rfl | assumption | (simp only [*]; done)) (by first | rfl | assumption | (simp only [*]; done)) ?_
    refine go_gi dX8_timeAll_7 mf_8_154 (by decide) (by first | rfl | assumption | (simp only [*]; done)) ?_
    refine go_icc (t := 30) dX8_timeAll_10 (by decide) c2_ge (fun h1 => ?_) (fun h1 => ?_)
    · have h1' := Int32.not_lt.mpr h1
      refine go_vret dX8_timeAll_30 rfl ?_ ?_
      · first | with_reducible rfl
      · first | with_reducible rfl
    · exact absurd hc h1
  | succ n ih =>
    intro i hi
    have hc : ¬ x_all i I 1 1 ≤ nI i := by rw [h1c]; exact nI_ge (by omega) (by omega)
    have hno : nOk (x_all i I) (nI i) := (hf.of (J := x_all i I) (fun k hk => x_all_o i I (by omega) (by omega) (by omega))).n (by omega)
    have hin : mm_in (nI i) 8 = true := mm_in_8.mpr ⟨nI_pos' (by omega), nI_lt (b := 8) (by omega) (by omega)⟩
    refine go_iload_n dX8_timeAll_2 rfl ?_
    refine go_aload_n dX8_timeAll_3 rfl ?_
    refine go_gr dX8_timeAll_4 mf_8_10 rfl (by first | rfl | assumption | (simp only [*]; done)) (by first | rfl | assumption | (simp only [*]; done)) ?_
    refine go_gi dX8_timeAll_7 mf_8_154 (by decide) (by first | rfl | assumption | (simp only [*]; done)) ?_
    refine go_icc (t := 30) dX8_timeAll_10 (by decide) c2_ge (fun h1 => ?_) (fun h1 => ?_)
    · exact absurd h1 hc
    · have h1' := Int32.not_le.mp h1
      refine go_aload_n dX8_timeAll_13 rfl ?_
      refine go_gr dX8_timeAll_14 mf_8_60 rfl (by first | rfl | assumption | (simp only [*]; done)) (by first | rfl | assumption | (simp only [*]; done)) ?_
      refine go_iload_n dX8_timeAll_17 rfl ?_
      refine go_aload_n dX8_timeAll_18 rfl ?_
      refine go_iload_n dX8_timeAll_19 rfl ?_
      refine go_call (kind := 1) (args := [.ref _, .int _]) (rest := _) dX8_timeAll_20 (Or.inr (Or.inl ⟨rfl, rfl⟩)) mk_8_268 (by decide) me_109 rfl rfl rfl rfl rfl (mm_rc_of (by first | rfl | assumption | (simp only [*]; done))) (ok_X8_timeOf _ _ _ _ hno) rfl ?_
      refine go_ias dX8_timeAll_23 (by first | rfl | assumption | (simp only [*]; done)) hin ?_
      refine go_iinc (v := (1)) (ls' := [some (.ref _), some (.int _)]) dX8_timeAll_24 rfl (by decide) rfl ?_
      refine go_goto (t := 2) dX8_timeAll_27 (by decide) ?_
      (rw [nI_1]; exact ih (i + 1) (by omega))

set_option maxHeartbeats 1000000 in
theorem ok_X8_timeAll (d : Nat) (I : mI) (L : mL) (N : Nat) (hf : fOk I N) : mm_Call (d + 6) 114 [.ref 0] (mm_sh, mm_R, I, L) none (mm_sh, mm_R, (x_all N I), L) := by
  refine mm_Call.of_go (d := d + 5) me_114 ⟨Nat.le_of_ble_eq_true rfl, rfl⟩ ?_
  show mm_Go mm_cs0 _ _ _ _ _ _ [some (.ref _), none] [] _ _ _
  refine go_pu (st' := .int (0) :: _) dX8_timeAll_0 rfl ?_
  refine go_istore_n (ls' := [some (.ref _), some (.int _)]) dX8_timeAll_1 rfl (Nat.le_of_ble_eq_true rfl) ?_
  exact lp_X8_timeAll d I L N hf N 0 (Nat.zero_add N)

set_option maxHeartbeats 1000000 in
theorem lp_X8_winner (d : Nat) (I : mI) (L : mL) (N : Nat) (h8 : N ≤ 8) (h1c : I 1 1 = nI N) : ∀ n i : Nat, i + n = N → 0 < i → mm_Go mm_cs0 d 8 false (some .int) cX8_winner 4 [some (.ref 0), some (.int (nI (x_win i (I 73)))), some (.int (nI i))] [] (mm_sh, mm_R, I, L) (some (.int (nI (x_win N (I 73))))) (mm_sh, mm_R, I, L) := by
  intro n
  induction n with
  | zero =>
    intro i hi h0
    obtain rfl : i = N := by omega
    have hc : I 1 1 ≤ nI i := by rw [h1c]; exact Int32.le_refl _
    refine go_iload_n dX8_winner_4 rfl ?_
    refine go_aload_n dX8_winner_5 rfl ?_
    refine go_gr dX8_winner_6 mf_8_10 rfl (by first | rfl | assumption | (simp only [*]; done)) (by first | rfl | assumption | (simp only [*]; done)) ?_
    refine go_gi dX8_winner_9 mf_8_154 (by decide) (by first | rfl | assumption | (simp only [*]; done)) ?_
    refine go_icc (t := 38) dX8_winner_12 (by decide) c2_ge (fun h1 => ?_) (fun h1 => ?_)
    · have h1' := Int32.not_lt.mpr h1
      refine go_iload_n dX8_winner_38 rfl ?_
      refine go_iret dX8_winner_39 rfl ?_ ?_
      · first | with_reducible rfl
      · first | with_reducible rfl
    · exact absurd hc h1
  | succ n ih =>
    intro i hi h0
    have hc : ¬ I 1 1 ≤ nI i := by rw [h1c]; exact nI_ge (by omega) (by omega)
    have hw := x_win_lt i (I 73) h0
    have hin : mm_in (nI i) 8 = true := mm_in_8.mpr ⟨nI_pos' (by omega), nI_lt (b := 8) (by omega) (by omega)⟩
    have hiw : mm_in (nI (x_win i (I 73))) 8 = true := mm_in_8.mpr ⟨nI_pos' (by omega), nI_lt (b := 8) (by omega) (by omega)⟩
    refine go_iload_n dX8_winner_4 rfl ?_
    refine go_aload_n dX8_winner_5 rfl ?_
    refine go_gr dX8_winner_6 mf_8_10 rfl (by first | rfl | assumption | (simp only [*]; done)) (by first | rfl | assumption | (simp only [*]; done)) ?_
    refine go_gi dX8_winner_9 mf_8_154 (by decide) (by first | rfl | assumption | (simp only [*]; done)) ?_
    refine go_icc (t := 38) dX8_winner_12 (by decide) c2_ge (fun h1 => ?_) (fun h1 => ?_)
    · exact absurd h1 hc
    · have h1' := Int32.not_le.mp h1
      refine go_aload_n dX8_winner_15 rfl ?_
      refine go_gr dX8_winner_16 mf_8_60 rfl (by first | rfl | assumption | (simp only [*]; done)) (by first | rfl | assumption | (simp only [*]; done)) ?_
      refine go_iload_n dX8_winner_19 rfl ?_
      refine go_ial dX8_winner_20 rfl (by first | rfl | assumption | (simp only [*]; done)) hin ?_
      refine go_aload_n dX8_winner_21 rfl ?_
      refine go_gr dX8_winner_22 mf_8_60 rfl (by first | rfl | assumption | (simp only [*]; done)) (by first | rfl | assumption | (simp only [*]; done)) ?_
      refine go_iload_n dX8_winner_25 rfl ?_
      refine go_ial dX8_winner_26 rfl (by first | rfl | assumption | (simp only [*]; done)) hiw ?_
      refine go_icc (t := 32) dX8_winner_27 (by decide) c2_ge (fun h2 => ?_) (fun h2 => ?_)
      · have h2' := Int32.not_lt.mpr h2
        refine go_iinc (v := (1)) (ls' := [some (.ref _), some (.int _), some (.int _)]) dX8_winner_32 rfl (by decide) rfl ?_
        refine go_goto (t := 4) dX8_winner_35 (by decide) ?_
        (rw [nI_1]
         have hK := ih (i + 1) (by omega) (by omega)
         rw [nI_clamp (by omega), nI_clamp (by omega)] at h2
         rw [x_win, if_neg (by omega)] at hK
         first | (rw [if_pos h2] at hK; exact hK) | (rw [if_neg h2] at hK; exact hK) | (rw [if_neg (Int32.not_lt.mpr h2)] at hK; exact hK) | (rw [if_pos (Int32.not_le.mp h2)] at hK; exact hK))
      · have h2' := Int32.not_le.mp h2
        refine go_iload_n dX8_winner_30 rfl ?_
        refine go_istore_n (ls' := [some (.ref _), some (.int _), some (.int _)]) dX8_winner_31 rfl (Nat.le_of_ble_eq_true rfl) ?_
        refine go_iinc (v := (1)) (ls' := [some (.ref _), some (.int _), some (.int _)]) dX8_winner_32 rfl (by decide) rfl ?_
        refine go_goto (t := 4) dX8_winner_35 (by decide) ?_
        (rw [nI_1]
         have hK := ih (i + 1) (by omega) (by omega)
         rw [nI_clamp (by omega), nI_clamp (by omega)] at h2
         rw [x_win, if_neg (by omega)] at hK
         first | (rw [if_pos h2] at hK; exact hK) | (rw [if_neg h2] at hK; exact hK) | (rw [if_neg (Int32.not_lt.mpr h2)] at hK; exact hK) | (rw [if_pos (Int32.not_le.mp h2)] at hK; exact hK))

set_option maxHeartbeats 1000000 in
theorem ok_X8_winner (d : Nat) (I : mI) (L : mL) (N : Nat) (h8 : N ≤ 8) (h1c : I 1 1 = nI N) : mm_Call (d + 1) 115 [.ref 0] (mm_sh, mm_R, I, L) (some (.int (nI (x_win N (I 73))))) (mm_sh, mm_R, I, L) := by
  refine mm_Call.of_go (d := d) me_115 ⟨Nat.le_of_ble_eq_true rfl, rfl⟩ ?_
  show mm_Go mm_cs0 _ _ _ _ _ _ [some (.ref _), none, none] [] _ _ _
  cases N with
  | zero =>
    have hc : I 1 1 ≤ 1 := by rw [h1c]; decide
    refine go_pu (st' := .int (0) :: _) dX8_winner_0 rfl ?_
    refine go_istore_n (ls' := [some (.ref _), some (.int _), none]) dX8_winner_1 rfl (Nat.le_of_ble_eq_true rfl) ?_
    refine go_pu (st' := .int (1) :: _) dX8_winner_2 rfl ?_
    refine go_istore_n (ls' := [some (.ref _), some (.int _), some (.int _)]) dX8_winner_3 rfl (Nat.le_of_ble_eq_true rfl) ?_
    refine go_iload_n dX8_winner_4 rfl ?_
    refine go_aload_n dX8_winner_5 rfl ?_
    refine go_gr dX8_winner_6 mf_8_10 rfl (by first | rfl | assumption | (simp only [*]; done)) (by first | rfl | assumption | (simp only [*]; done)) ?_
    refine go_gi dX8_winner_9 mf_8_154 (by decide) (by first | rfl | assumption | (simp only [*]; done)) ?_
    refine go_icc (t := 38) dX8_winner_12 (by decide) c2_ge (fun h1 => ?_) (fun h1 => ?_)
    · have h1' := Int32.not_lt.mpr h1
      refine go_iload_n dX8_winner_38 rfl ?_
      refine go_iret dX8_winner_39 rfl ?_ ?_
      · first | with_reducible rfl | rfl
      · first | with_reducible rfl | rfl
    · exact absurd hc h1
  | succ N =>
    refine go_pu (st' := .int (0) :: _) dX8_winner_0 rfl ?_
    refine go_istore_n (ls' := [some (.ref _), some (.int _), none]) dX8_winner_1 rfl (Nat.le_of_ble_eq_true rfl) ?_
    refine go_pu (st' := .int (1) :: _) dX8_winner_2 rfl ?_
    refine go_istore_n (ls' := [some (.ref _), some (.int _), some (.int _)]) dX8_winner_3 rfl (Nat.le_of_ble_eq_true rfl) ?_
    exact lp_X8_winner d I L (N + 1) h8 h1c N 1 (Nat.add_comm 1 N) (by omega)

set_option maxHeartbeats 1000000 in
theorem lp_X8_leadOf (d : Nat) (I : mI) (L : mL) (N : Nat) (h8 : N ≤ 8) (h1c : I 1 1 = nI N) (w : Int32) (hiw : mm_in w 8 = true) : ∀ n i : Nat, i + n = N → mm_Go mm_cs0 (d + 1) 8 false (some .int) cX8_leadOf 6 [some (.ref 0), some (.int w), some (.int (x_nxt w (I 73) i)), some (.int (nI i))] [] (mm_sh, mm_R, I, L) (some (.int (x_lead w (I 73) N))) (mm_sh, mm_R, I, L) := by
  intro n
  induction n with
  | zero =>
    intro i hi
    obtain rfl : i = N := by omega
    have hc : I 1 1 ≤ nI i := by rw [h1c]; exact Int32.le_refl _
    refine go_iload_n dX8_leadOf_6 rfl ?_
    refine go_aload_n dX8_leadOf_7 rfl ?_
    refine go_gr dX8_leadOf_8 mf_8_10 rfl (by first | rfl | assumption | (simp only [*]; done)) (by first | rfl | assumption | (simp only [*]; done)) ?_
    refine go_gi dX8_leadOf_11 mf_8_154 (by decide) (by first | rfl | assumption | (simp only [*]; done)) ?_
    refine go_icc (t := 39) dX8_leadOf_14 (by decide) c2_ge (fun h1 => ?_) (fun h1 => ?_)
    · have h1' := Int32.not_lt.mpr h1
      refine go_iload_n dX8_leadOf_39 rfl ?_
      refine go_pu (st' := .int (999) :: _) dX8_leadOf_40 rfl ?_
      refine go_icc (t := 50) dX8_leadOf_43 (by decide) c2_le (fun h2 => ?_) (fun h2 => ?_)
      · have h2' := Int32.not_lt.mpr h2
        refine go_iload_n dX8_leadOf_50 rfl ?_
        refine go_aload_n dX8_leadOf_51 rfl ?_
        refine go_gr dX8_leadOf_52 mf_8_60 rfl (by first | rfl | assumption | (simp only [*]; done)) (by first | rfl | assumption | (simp only [*]; done)) ?_
        refine go_iload_n dX8_leadOf_55 rfl ?_
        refine go_ial dX8_leadOf_56 rfl (by first | rfl | assumption | (simp only [*]; done)) hiw ?_
        refine go_pu (st' := .int _ :: _) dX8_leadOf_57 rfl ?_
        refine go_iret dX8_leadOf_58 rfl ?_ ?_
        · first | with_reducible rfl | (rw [x_lead, if_pos h2]; done) | (rw [x_lead, if_neg h2]; done)
        · first | with_reducible rfl | (rw [x_lead, if_pos h2]; done) | (rw [x_lead, if_neg h2]; done)
      · have h2' := Int32.not_le.mp h2
        refine go_pu (st' := .int (0) :: _) dX8_leadOf_46 rfl ?_
        refine go_goto (t := 58) dX8_leadOf_47 (by decide) ?_
        refine go_iret dX8_leadOf_58 rfl ?_ ?_
        · first | with_reducible rfl | (rw [x_lead, if_pos h2]; done) | (rw [x_lead, if_neg h2]; done)
        · first | with_reducible rfl | (rw [x_lead, if_pos h2]; done) | (rw [x_lead, if_neg h2]; done)
    · exact absurd hc h1
  | succ n ih =>
    intro i hi
    have hc : ¬ I 1 1 ≤ nI i := by rw [h1c]; exact nI_ge (by omega) (by omega)
    have hin : mm_in (nI i) 8 = true := mm_in_8.mpr ⟨nI_pos' (by omega), nI_lt (b := 8) (by omega) (by omega)⟩
    refine go_iload_n dX8_leadOf_6 rfl ?_
    refine go_aload_n dX8_leadOf_7 rfl ?_
    refine go_gr dX8_leadOf_8 mf_8_10 rfl (by first | rfl | assumption | (simp only [*]; done)) (by first | rfl | assumption | (simp only [*]; done)) ?_
    refine go_gi dX8_leadOf_11 mf_8_154 (by decide) (by first | rfl | assumption | (simp only [*]; done)) ?_
    refine go_icc (t := 39) dX8_leadOf_14 (by decide) c2_ge (fun h1 => ?_) (fun h1 => ?_)
    · exact absurd h1 hc
    · have h1' := Int32.not_le.mp h1
      refine go_iload_n dX8_leadOf_17 rfl ?_
      refine go_iload_n dX8_leadOf_18 rfl ?_
      refine go_icc (t := 33) dX8_leadOf_19 (by decide) c2_eq (fun h2 => ?_) (fun h2 => ?_)
      · refine go_iinc (v := (1)) (ls' := [some (.ref _), some (.int _), some (.int _), some (.int _)]) dX8_leadOf_33 rfl (by decide) rfl ?_
        refine go_goto (t := 6) dX8_leadOf_36 (by decide) ?_
        (have hK := ih (i + 1) (by omega)
         rw [x_nxt] at hK
         rw [nI_1]
         first | (rw [if_pos h2] at hK; exact hK) | (rw [if_neg h2] at hK; rw [nI_clamp (by omega)]; exact hK))
      · refine go_iload_n dX8_leadOf_22 rfl ?_
        refine go_aload_n dX8_leadOf_23 rfl ?_
        refine go_gr dX8_leadOf_24 mf_8_60 rfl (by first | rfl | assumption | (simp only [*]; done)) (by first | rfl | assumption | (simp only [*]; done)) ?_
        refine go_iload_n dX8_leadOf_27 rfl ?_
        refine go_ial dX8_leadOf_28 rfl (by first | rfl | assumption | (simp only [*]; done)) hin ?_
        refine go_bi (kind := 0) (args := [.int _, .int _]) (rest := _) dX8_leadOf_29 (Or.inl ⟨rfl, rfl⟩) mk_8_366 (by decide) rfl rfl rfl rfl rfl rfl ?_
        refine go_istore_n (ls' := [some (.ref _), some (.int _), some (.int _), some (.int _)]) dX8_leadOf_32 rfl (Nat.le_of_ble_eq_true rfl) ?_
        refine go_iinc (v := (1)) (ls' := [some (.ref _), some (.int _), some (.int _), some (.int _)]) dX8_leadOf_33 rfl (by decide) rfl ?_
        refine go_goto (t := 6) dX8_leadOf_36 (by decide) ?_
        (have hK := ih (i + 1) (by omega)
         rw [x_nxt] at hK
         rw [nI_1]
         first | (rw [if_pos h2] at hK; exact hK) | (rw [if_neg h2] at hK; rw [nI_clamp (by omega)]; exact hK))

set_option maxHeartbeats 1000000 in
theorem ok_X8_leadOf (d : Nat) (I : mI) (L : mL) (N : Nat) (h8 : N ≤ 8) (h1c : I 1 1 = nI N) (w : Int32) (hiw : mm_in w 8 = true) : mm_Call (d + 2) 116 [.ref 0, .int w] (mm_sh, mm_R, I, L) (some (.int (x_lead w (I 73) N))) (mm_sh, mm_R, I, L) := by
  refine mm_Call.of_go (d := d + 1) me_116 ⟨Nat.le_of_ble_eq_true rfl, rfl⟩ ?_
  show mm_Go mm_cs0 _ _ _ _ _ _ [some (.ref _), some (.int _), none, none] [] _ _ _
  refine go_pu (st' := .int (1000) :: _) dX8_leadOf_0 rfl ?_
  refine go_istore_n (ls' := [some (.ref _), some (.int _), some (.int _), none]) dX8_leadOf_3 rfl (Nat.le_of_ble_eq_true rfl) ?_
  refine go_pu (st' := .int (0) :: _) dX8_leadOf_4 rfl ?_
  refine go_istore_n (ls' := [some (.ref _), some (.int _), some (.int _), some (.int _)]) dX8_leadOf_5 rfl (Nat.le_of_ble_eq_true rfl) ?_
  exact lp_X8_leadOf d I L N h8 h1c w hiw N 0 (Nat.zero_add N)
