/-! LAYER A: the best kind, the best sack -/
theorem isKd_n {n : Nat} (h : n < 7) : isKd (nI n) := by
  have : ∀ n, n < 7 → isKd (nI n) := by
    intro n hn
    have : n = 0 ∨ n = 1 ∨ n = 2 ∨ n = 3 ∨ n = 4 ∨ n = 5 ∨ n = 6 := by omega
    rcases this with rfl | rfl | rfl | rfl | rfl | rfl | rfl <;> simp [isKd, nI] <;> decide
  exact this n h
def x_bkM (I : mI) (c : Int32) : Nat → mI
  | 0 => I
  | n + 1 => x_end (x_as (x_bkM I c n) c (nI n))
theorem x_bkM_o (I : mI) (c : Int32) (n : Nat) {k : Nat} (h1 : k ≠ 62) (h2 : k ≠ 63) : x_bkM I c n k = I k := by
  induction n with
  | zero => rfl
  | succ n ih => rw [x_bkM, x_end_as _ _ _ h1 h2, ih]
def x_bkT (I : mI) (c : Int32) (n : Nat) : Int32 := x_tim (x_as (x_bkM I c n) c (nI n))
def x_bsM (I : mI) (c : Int32) : Nat → mI
  | 0 => I
  | n + 1 => x_end (x_inn (x_bsM I c n) c (nI n))
theorem x_bsM_o (I : mI) (c : Int32) (n : Nat) {k : Nat} (h1 : k ≠ 62) (h2 : k ≠ 63) : x_bsM I c n k = I k := by
  induction n with
  | zero => rfl
  | succ n ih => rw [x_bsM, x_end_inn _ _ _ h1 h2, ih]
def x_bsT (I : mI) (c : Int32) (n : Nat) : Int32 := x_tim (x_inn (x_bsM I c n) c (nI n))
/-- the least of T and the first that has it, under b -/
def x_lst (b : Int32) (T : Nat → Int32) : Nat → Int32 × Int32
  | 0 => (-1, b)
  | n + 1 => if T n < (x_lst b T n).2 then (nI n, T n) else x_lst b T n
theorem x_lst_t {b : Int32} {T : Nat → Int32} {n : Nat} (h : ¬ (x_lst b T n).2 ≤ T n) : x_lst b T (n + 1) = (nI n, T n) := if_pos (Int32.not_le.mp h)
theorem x_lst_f {b : Int32} {T : Nat → Int32} {n : Nat} (h : (x_lst b T n).2 ≤ T n) : x_lst b T (n + 1) = x_lst b T n := if_neg (Int32.not_lt.mpr h)

set_option maxHeartbeats 1000000 in
theorem lp_X8_bestKind (d : Nat) (I : mI) (L : mL) (N : Nat) (hf : fOk I N) (c : Int32) (hcc : 0 ≤ c ∧ c < I 1 1) : ∀ (n i : Nat) (v : Option Value), i + n = 7 → mm_Go mm_cs0 (d + 5) 8 false (some .int) cX8_bestKind 9 [some (.ref 0), some (.int c), some (.int (x_lst 1000 (x_bkT I c) i).1), some (.int (x_lst 1000 (x_bkT I c) i).2), some (.int (nI i)), v] [] (mm_sh, mm_R, x_bkM I c i, L) (some (.int (x_lst 1000 (x_bkT I c) 7).1)) (mm_sh, mm_R, x_bkM I c 7, L) := by
  intro n
  induction n with
  | zero =>
    intro i v hi
    obtain rfl : i = 7 := by omega
    have hc : (7 : Int32) ≤ nI 7 := by decide
    refine go_iload dX8_bestKind_9 rfl ?_
    refine go_pu (st' := .int (7) :: _) dX8_bestKind_11 rfl ?_
    refine go_icc (t := 43) dX8_bestKind_13 (by decide) c2_ge (fun h1 => ?_) (fun h1 => ?_)
    · have h1' := Int32.not_lt.mpr h1
      refine go_iload_n dX8_bestKind_43 rfl ?_
      refine go_iret dX8_bestKind_44 rfl ?_ ?_
      · first | with_reducible rfl | rfl
      · first | with_reducible rfl | rfl
    · exact absurd hc h1
  | succ n ih =>
    intro i v hi
    have hc : ¬ (7 : Int32) ≤ nI i := nI_ge (a := i) (b := 7) (by omega) (by omega)
    have hno : nOk (x_bkM I c i) c := (hf.of (J := x_bkM I c i) (fun k hk => x_bkM_o I c i (by omega) (by omega))).nC (by rw [x_bkM_o I c i (by decide) (by decide)]; exact hcc)
    refine go_iload dX8_bestKind_9 rfl ?_
    refine go_pu (st' := .int (7) :: _) dX8_bestKind_11 rfl ?_
    refine go_icc (t := 43) dX8_bestKind_13 (by decide) c2_ge (fun h1 => ?_) (fun h1 => ?_)
    · exact absurd h1 hc
    · have h1' := Int32.not_le.mp h1
      refine go_aload_n dX8_bestKind_16 rfl ?_
      refine go_iload_n dX8_bestKind_17 rfl ?_
      refine go_iload dX8_bestKind_18 rfl ?_
      refine go_call (kind := 1) (args := [.ref _, .int _, .int _]) (rest := _) dX8_bestKind_20 (Or.inr (Or.inl ⟨rfl, rfl⟩)) mk_8_284 (by decide) me_110 rfl rfl rfl rfl rfl (mm_rc_of (by first | rfl | assumption | (simp only [*]; done))) (ok_X8_timeAs _ _ _ _ hno _ (isKd_n (by omega))) rfl ?_
      refine go_istore (ls' := [some (.ref _), some (.int _), some (.int _), some (.int _), some (.int _), some (.int _)]) dX8_bestKind_23 rfl (Nat.le_of_ble_eq_true rfl) ?_
      refine go_iload dX8_bestKind_25 rfl ?_
      refine go_iload_n dX8_bestKind_27 rfl ?_
      refine go_icc (t := 37) dX8_bestKind_28 (by decide) c2_ge (fun h2 => ?_) (fun h2 => ?_)
      · have h2' := Int32.not_lt.mpr h2
        refine go_iinc (v := (1)) (ls' := [some (.ref _), some (.int _), some (.int _), some (.int _), some (.int _), some (.int _)]) dX8_bestKind_37 rfl (by decide) rfl ?_
        refine go_goto (t := 9) dX8_bestKind_40 (by decide) ?_
        (have hK := ih (i + 1) (some (.int (x_bkT I c i))) (by omega)
         rw [nI_1]
         first | (rw [x_lst_f (T := x_bkT I c) (n := i) h2] at hK; exact hK) | (rw [x_lst_t (T := x_bkT I c) (n := i) h2] at hK; exact hK))
      · have h2' := Int32.not_le.mp h2
        refine go_iload dX8_bestKind_31 rfl ?_
        refine go_istore_n (ls' := [some (.ref _), some (.int _), some (.int _), some (.int _), some (.int _), some (.int _)]) dX8_bestKind_33 rfl (Nat.le_of_ble_eq_true rfl) ?_
        refine go_iload dX8_bestKind_34 rfl ?_
        refine go_istore_n (ls' := [some (.ref _), some (.int _), some (.int _), some (.int _), some (.int _), some (.int _)]) dX8_bestKind_36 rfl (Nat.le_of_ble_eq_true rfl) ?_
        refine go_iinc (v := (1)) (ls' := [some (.ref _), some (.int _), some (.int _), some (.int _), some (.int _), some (.int _)]) dX8_bestKind_37 rfl (by decide) rfl ?_
        refine go_goto (t := 9) dX8_bestKind_40 (by decide) ?_
        (have hK := ih (i + 1) (some (.int (x_bkT I c i))) (by omega)
         rw [nI_1]
         first | (rw [x_lst_f (T := x_bkT I c) (n := i) h2] at hK; exact hK) | (rw [x_lst_t (T := x_bkT I c) (n := i) h2] at hK; exact hK))

set_option maxHeartbeats 1000000 in
theorem ok_X8_bestKind (d : Nat) (I : mI) (L : mL) (N : Nat) (hf : fOk I N) (c : Int32) (hcc : 0 ≤ c ∧ c < I 1 1)  : mm_Call (d + 6) 117 [.ref 0, .int c] (mm_sh, mm_R, I, L) (some (.int (x_lst 1000 (x_bkT I c) 7).1)) (mm_sh, mm_R, (x_bkM I c 7), L) := by
  refine mm_Call.of_go (d := d + 5) me_117 ⟨Nat.le_of_ble_eq_true rfl, rfl⟩ ?_
  show mm_Go mm_cs0 _ _ _ _ _ _ [some (.ref _), some (.int _), none, none, none, none] [] _ _ _
  refine go_pu (st' := .int (-1) :: _) dX8_bestKind_0 rfl ?_
  refine go_istore_n (ls' := [some (.ref _), some (.int _), some (.int _), none, none, none]) dX8_bestKind_1 rfl (Nat.le_of_ble_eq_true rfl) ?_
  refine go_pu (st' := .int (1000) :: _) dX8_bestKind_2 rfl ?_
  refine go_istore_n (ls' := [some (.ref _), some (.int _), some (.int _), some (.int _), none, none]) dX8_bestKind_5 rfl (Nat.le_of_ble_eq_true rfl) ?_
  refine go_pu (st' := .int (0) :: _) dX8_bestKind_6 rfl ?_
  refine go_istore (ls' := [some (.ref _), some (.int _), some (.int _), some (.int _), some (.int _), none]) dX8_bestKind_7 rfl (Nat.le_of_ble_eq_true rfl) ?_
  exact lp_X8_bestKind d I L N hf c hcc 7 0 none (Nat.zero_add _)

set_option maxHeartbeats 1000000 in
theorem lp_X8_bestSack (d : Nat) (I : mI) (L : mL) (N : Nat) (hf : fOk I N) (c : Int32) (hcc : 0 ≤ c ∧ c < I 1 1) (S : Nat) (hS : S ≤ 8) (h1s : I 1 3 = nI S) : ∀ (n i : Nat) (v : Option Value), i + n = S → mm_Go mm_cs0 (d + 5) 8 false (some .int) cX8_bestSack 9 [some (.ref 0), some (.int c), some (.int (x_lst 1000 (x_bsT I c) i).1), some (.int (x_lst 1000 (x_bsT I c) i).2), some (.int (nI i)), v] [] (mm_sh, mm_R, x_bsM I c i, L) (some (.int (x_lst 1000 (x_bsT I c) S).1)) (mm_sh, mm_R, x_bsM I c S, L) := by
  have h1c : ∀ i, x_bsM I c i 1 3 = nI S := fun i => by rw [x_bsM_o I c i (by decide) (by decide)]; exact h1s
  intro n
  induction n with
  | zero =>
    intro i v hi
    obtain rfl : i = S := by omega
    have hc : x_bsM I c i 1 3 ≤ nI i := by rw [h1c]; exact Int32.le_refl _
    refine go_iload dX8_bestSack_9 rfl ?_
    refine go_aload_n dX8_bestSack_11 rfl ?_
    refine go_gr dX8_bestSack_12 mf_8_10 rfl (by first | rfl | assumption | (simp only [*]; done)) (by first | rfl | assumption | (simp only [*]; done)) ?_
    refine go_gi dX8_bestSack_15 mf_8_161 (by decide) (by first | rfl | assumption | (simp only [*]; done)) ?_
    refine go_icc (t := 48) dX8_bestSack_18 (by decide) c2_ge (fun h1 => ?_) (fun h1 => ?_)
    · have h1' := Int32.not_lt.mpr h1
      refine go_iload_n dX8_bestSack_48 rfl ?_
      refine go_iret dX8_bestSack_49 rfl ?_ ?_
      · first | with_reducible rfl | rfl
      · first | with_reducible rfl | rfl
    · exact absurd hc h1
  | succ n ih =>
    intro i v hi
    have hc : ¬ x_bsM I c i 1 3 ≤ nI i := by rw [h1c]; exact nI_ge (by omega) (by omega)
    have hno : nOk (x_bsM I c i) c := (hf.of (J := x_bsM I c i) (fun k hk => x_bsM_o I c i (by omega) (by omega))).nC (by rw [x_bsM_o I c i (by decide) (by decide)]; exact hcc)
    refine go_iload dX8_bestSack_9 rfl ?_
    refine go_aload_n dX8_bestSack_11 rfl ?_
    refine go_gr dX8_bestSack_12 mf_8_10 rfl (by first | rfl | assumption | (simp only [*]; done)) (by first | rfl | assumption | (simp only [*]; done)) ?_
    refine go_gi dX8_bestSack_15 mf_8_161 (by decide) (by first | rfl | assumption | (simp only [*]; done)) ?_
    refine go_icc (t := 48) dX8_bestSack_18 (by decide) c2_ge (fun h1 => ?_) (fun h1 => ?_)
    · exact absurd h1 hc
    · have h1' := Int32.not_le.mp h1
      refine go_aload_n dX8_bestSack_21 rfl ?_
      refine go_iload_n dX8_bestSack_22 rfl ?_
      refine go_iload dX8_bestSack_23 rfl ?_
      refine go_call (kind := 1) (args := [.ref _, .int _, .int _]) (rest := _) dX8_bestSack_25 (Or.inr (Or.inl ⟨rfl, rfl⟩)) mk_8_294 (by decide) me_111 rfl rfl rfl rfl rfl (mm_rc_of (by first | rfl | assumption | (simp only [*]; done))) (ok_X8_timeIn _ _ _ _ hno _) rfl ?_
      refine go_istore (ls' := [some (.ref _), some (.int _), some (.int _), some (.int _), some (.int _), some (.int _)]) dX8_bestSack_28 rfl (Nat.le_of_ble_eq_true rfl) ?_
      refine go_iload dX8_bestSack_30 rfl ?_
      refine go_iload_n dX8_bestSack_32 rfl ?_
      refine go_icc (t := 42) dX8_bestSack_33 (by decide) c2_ge (fun h2 => ?_) (fun h2 => ?_)
      · have h2' := Int32.not_lt.mpr h2
        refine go_iinc (v := (1)) (ls' := [some (.ref _), some (.int _), some (.int _), some (.int _), some (.int _), some (.int _)]) dX8_bestSack_42 rfl (by decide) rfl ?_
        refine go_goto (t := 9) dX8_bestSack_45 (by decide) ?_
        (have hK := ih (i + 1) (some (.int (x_bsT I c i))) (by omega)
         rw [nI_1]
         first | (rw [x_lst_f (T := x_bsT I c) (n := i) h2] at hK; exact hK) | (rw [x_lst_t (T := x_bsT I c) (n := i) h2] at hK; exact hK))
      · have h2' := Int32.not_le.mp h2
        refine go_iload dX8_bestSack_36 rfl ?_
        refine go_istore_n (ls' := [some (.ref _), some (.int _), some (.int _), some (.int _), some (.int _), some (.int _)]) dX8_bestSack_38 rfl (Nat.le_of_ble_eq_true rfl) ?_
        refine go_iload dX8_bestSack_39 rfl ?_
        refine go_istore_n (ls' := [some (.ref _), some (.int _), some (.int _), some (.int _), some (.int _), some (.int _)]) dX8_bestSack_41 rfl (Nat.le_of_ble_eq_true rfl) ?_
        refine go_iinc (v := (1)) (ls' := [some (.ref _), some (.int _), some (.int _), some (.int _), some (.int _), some (.int _)]) dX8_bestSack_42 rfl (by decide) rfl ?_
        refine go_goto (t := 9) dX8_bestSack_45 (by decide) ?_
        (have hK := ih (i + 1) (some (.int (x_bsT I c i))) (by omega)
         rw [nI_1]
         first | (rw [x_lst_f (T := x_bsT I c) (n := i) h2] at hK; exact hK) | (rw [x_lst_t (T := x_bsT I c) (n := i) h2] at hK; exact hK))

set_option maxHeartbeats 1000000 in
theorem ok_X8_bestSack (d : Nat) (I : mI) (L : mL) (N : Nat) (hf : fOk I N) (c : Int32) (hcc : 0 ≤ c ∧ c < I 1 1) (S : Nat) (hS : S ≤ 8) (h1s : I 1 3 = nI S)  : mm_Call (d + 6) 118 [.ref 0, .int c] (mm_sh, mm_R, I, L) (some (.int (x_lst 1000 (x_bsT I c) S).1)) (mm_sh, mm_R, (x_bsM I c S), L) := by
  refine mm_Call.of_go (d := d + 5) me_118 ⟨Nat.le_of_ble_eq_true rfl, rfl⟩ ?_
  show mm_Go mm_cs0 _ _ _ _ _ _ [some (.ref _), some (.int _), none, none, none, none] [] _ _ _
  refine go_pu (st' := .int (-1) :: _) dX8_bestSack_0 rfl ?_
  refine go_istore_n (ls' := [some (.ref _), some (.int _), some (.int _), none, none, none]) dX8_bestSack_1 rfl (Nat.le_of_ble_eq_true rfl) ?_
  refine go_pu (st' := .int (1000) :: _) dX8_bestSack_2 rfl ?_
  refine go_istore_n (ls' := [some (.ref _), some (.int _), some (.int _), some (.int _), none, none]) dX8_bestSack_5 rfl (Nat.le_of_ble_eq_true rfl) ?_
  refine go_pu (st' := .int (0) :: _) dX8_bestSack_6 rfl ?_
  refine go_istore (ls' := [some (.ref _), some (.int _), some (.int _), some (.int _), some (.int _), none]) dX8_bestSack_7 rfl (Nat.le_of_ble_eq_true rfl) ?_
  exact lp_X8_bestSack d I L N hf c hcc S hS h1s S 0 none (Nat.zero_add _)

set_option maxHeartbeats 1000000 in
theorem ok_X8_leastAhead (d : Nat) (I : mI) (L : mL) (c t : Int32) (ho : nOk I c) : mm_Call (d + 5) 119 [.ref 0, .int c, .int t] (mm_sh, mm_R, I, L) (some (.int (x_laf (x_take I 62 1 c) t))) (mm_sh, mm_R, (x_lafM (x_take I 62 1 c) t), L) := by
  refine mm_Call.of_go (d := d + 4) me_119 ⟨Nat.le_of_ble_eq_true rfl, rfl⟩ ?_
  show mm_Go mm_cs0 _ _ _ _ _ _ [some (.ref _), some (.int _), some (.int _)] [] _ _ _
  refine go_aload_n dX8_leastAhead_0 rfl ?_
  refine go_gr dX8_leastAhead_1 mf_8_31 rfl (by first | rfl | assumption | (simp only [*]; done)) (by first | rfl | assumption | (simp only [*]; done)) ?_
  refine go_aload_n dX8_leastAhead_4 rfl ?_
  refine go_gr dX8_leastAhead_5 mf_8_10 rfl (by first | rfl | assumption | (simp only [*]; done)) (by first | rfl | assumption | (simp only [*]; done)) ?_
  refine go_iload_n dX8_leastAhead_8 rfl ?_
  refine go_call (kind := 1) (args := [.ref _, .ref _, .int _]) (rest := _) dX8_leastAhead_9 (Or.inr (Or.inl ⟨rfl, rfl⟩)) mk_8_167 (by decide) me_22 rfl rfl rfl rfl rfl (mm_rc_of (by first | rfl | assumption | (simp only [*]; done))) (ok_X4_take _ _ _ 62 1 _ isRa_62 isF_1 (by decide) ho.1 ho.2.1 ho.2.2.2.1) rfl ?_
  refine go_aload_n dX8_leastAhead_12 rfl ?_
  refine go_gr dX8_leastAhead_13 mf_8_31 rfl (by first | rfl | assumption | (simp only [*]; done)) (by first | rfl | assumption | (simp only [*]; done)) ?_
  refine go_aload_n dX8_leastAhead_16 rfl ?_
  refine go_gr dX8_leastAhead_17 mf_8_10 rfl (by first | rfl | assumption | (simp only [*]; done)) (by first | rfl | assumption | (simp only [*]; done)) ?_
  refine go_iload_n dX8_leastAhead_20 rfl ?_
  refine go_call (kind := 1) (args := [.ref _, .ref _, .int _]) (rest := _) dX8_leastAhead_21 (Or.inr (Or.inl ⟨rfl, rfl⟩)) mk_8_377 (by decide) me_33 rfl rfl rfl rfl rfl (mm_rc_of (by first | rfl | assumption | (simp only [*]; done))) (ok_X4_leastAheadFor _ _ _ _ (by rw [x_take_63, c_become_0]; exact ho.2.2.2.2) (by rw [x_take_o _ _ (by decide) (by decide)]; exact ho.2.2.1)) rfl ?_
  refine go_iret dX8_leastAhead_24 rfl ?_ ?_
  · first | with_reducible rfl | rfl
  · first | with_reducible rfl | rfl
