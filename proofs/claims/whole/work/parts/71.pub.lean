/-! PUBLIC METHODS: best, wins -/
section P71
variable {I C J : pI} {L : pL} {N S : Nat}

theorem x_win_t {T : Nat → Int32} {i : Nat} (h0 : 0 < i) (h : T i < T (x_win i T)) : x_win (i + 1) T = i := by
  rw [x_win, if_neg (by omega), if_pos h]
theorem x_win_f {T : Nat → Int32} {i : Nat} (h0 : 0 < i) (h : T (x_win i T) ≤ T i) : x_win (i + 1) T = x_win i T := by
  rw [x_win, if_neg (by omega), if_neg (Int32.not_lt.mpr h)]

set_option maxHeartbeats 400000 in
theorem lp_how (d : Nat) (v : vN I N S) {c : Int32} (hc : 0 ≤ c ∧ c < nI N) : ∀ (n i : Nat) (J : pI), i + n = 7 → 0 < i → mR I C J → gP mm_cs0 (d + 7) 9 false (some .int) cX9_how 4 [some (.ref 108), some (.int c), some (.int (nI (x_win i (tK I c.toNatClampNeg)))), some (.int (nI i))] [] (mm_sh, mm_R, J, L) (pX (some (.int (nI (x_win 7 (tK I c.toNatClampNeg))))) L (mR I C)) := by
  intro n
  induction n with
  | zero =>
    intro i J hi hi0 hsJ
    obtain rfl : i = 7 := by omega
    have m0 : J 108 0 = nI N := (hsJ.r (by decide)).trans v.2.2.1
    have m1 : J 108 1 = nI S := (hsJ.r (by decide)).trans v.2.2.2.1
    have hN8 := v.1
    have hS8 := v.2.1
    have hw0 := x_win_lt 7 (tK I c.toNatClampNeg) (by omega)
    have hc1 : (7 : Int32) ≤ nI 7 := Int32.le_refl _
    refine gp_iload_n dX9_how_4 rfl ?_
    refine gp_pu (st' := .int (7) :: _) dX9_how_5 rfl ?_
    refine gp_icc (t := 33) dX9_how_7 (by decide) c2_ge (fun h1 => ?_) (fun h1 => ?_)
    · have h1' := Int32.not_lt.mpr h1
      refine gp_iload_n dX9_how_33 rfl ?_
      refine gp_iret dX9_how_34 rfl ?_
      exact pX.mk rfl hsJ
    · exact absurd hc1 h1
  | succ n ih =>
    intro i J hi hi0 hsJ
    have m0 : J 108 0 = nI N := (hsJ.r (by decide)).trans v.2.2.1
    have m1 : J 108 1 = nI S := (hsJ.r (by decide)).trans v.2.2.2.1
    have hN8 := v.1
    have hS8 := v.2.1
    have hw0 := x_win_lt i (tK I c.toNatClampNeg) (by omega)
    have hc1 : ¬ (7 : Int32) ≤ nI i := nI_ge (b := 7) (by omega) (by omega)
    refine gp_iload_n dX9_how_4 rfl ?_
    refine gp_pu (st' := .int (7) :: _) dX9_how_5 rfl ?_
    refine gp_icc (t := 33) dX9_how_7 (by decide) c2_ge (fun h1 => ?_) (fun h1 => ?_)
    · exact absurd h1 hc1
    · have h1' := Int32.not_le.mp h1
      (try simp only [Classical.not_not] at h1)
      refine gp_aload_n dX9_how_10 rfl ?_
      refine gp_iload_n dX9_how_11 rfl ?_
      refine gp_iload_n dX9_how_12 rfl ?_
      refine gp_callX (kind := 1) (args := [.ref _, .int _, .int _]) (rest := _) dX9_how_13 (Or.inr (Or.inl ⟨rfl, rfl⟩)) mk_9_299 (by decide) me_182 rfl rfl rfl rfl rfl (mm_rc_of (by first | rfl | assumption | (simp only [*]; done))) (mn_inAs _ v (by first | exact hK1 | exact hsJ) hc (by omega)) ?_
      intro K1 hK1
      refine gp_aload_n dX9_how_16 rfl ?_
      refine gp_iload_n dX9_how_17 rfl ?_
      refine gp_iload_n dX9_how_18 rfl ?_
      refine gp_callX (kind := 1) (args := [.ref _, .int _, .int _]) (rest := _) dX9_how_19 (Or.inr (Or.inl ⟨rfl, rfl⟩)) mk_9_299 (by decide) me_182 rfl rfl rfl rfl rfl (mm_rc_of (by first | rfl | assumption | (simp only [*]; done))) (mn_inAs _ v (by first | exact hK1 | exact hsJ) hc (by omega)) ?_
      intro K2 hK2
      refine gp_icc (t := 27) dX9_how_22 (by decide) c2_ge (fun h2 => ?_) (fun h2 => ?_)
      · have h2' := Int32.not_lt.mpr h2
        (try simp only [Classical.not_not] at h2)
        refine gp_iinc (v := (1)) (ls' := [some (.ref _), some (.int _), some (.int _), some (.int _)]) dX9_how_27 rfl (by decide) rfl ?_
        refine gp_goto (t := 4) dX9_how_30 (by decide) ?_
        (rw [nI_1]
         have hx := x_win_f (T := tK I c.toNatClampNeg) (i := i) (by omega) h2
         have ih' := ih (i + 1) K2 (by omega) (by omega) hK2
         rw [hx] at ih'
         exact ih')
      · have h2' := Int32.not_le.mp h2
        (try simp only [Classical.not_not] at h2)
        refine gp_iload_n dX9_how_25 rfl ?_
        refine gp_istore_n (ls' := [some (.ref _), some (.int _), some (.int _), some (.int _)]) dX9_how_26 rfl (Nat.le_of_ble_eq_true rfl) ?_
        refine gp_iinc (v := (1)) (ls' := [some (.ref _), some (.int _), some (.int _), some (.int _)]) dX9_how_27 rfl (by decide) rfl ?_
        refine gp_goto (t := 4) dX9_how_30 (by decide) ?_
        (rw [nI_1]
         have hx := x_win_t (T := tK I c.toNatClampNeg) (i := i) (by omega) h2'
         have ih' := ih (i + 1) K2 (by omega) (by omega) hK2
         rw [hx] at ih'
         exact ih')

set_option maxHeartbeats 400000 in
theorem lp_bsack (d : Nat) (v : vN I N S) {c : Int32} (hc : 0 ≤ c ∧ c < nI N) : ∀ (n i : Nat) (J : pI), i + n = S → 0 < i → mR I C J → gP mm_cs0 (d + 7) 9 false (some .int) cX9_bestSack 4 [some (.ref 108), some (.int c), some (.int (nI (x_win i (tS I c.toNatClampNeg)))), some (.int (nI i))] [] (mm_sh, mm_R, J, L) (pX (some (.int (nI (x_win S (tS I c.toNatClampNeg))))) L (mR I C)) := by
  intro n
  induction n with
  | zero =>
    intro i J hi hi0 hsJ
    obtain rfl : i = S := by omega
    have m0 : J 108 0 = nI N := (hsJ.r (by decide)).trans v.2.2.1
    have m1 : J 108 1 = nI i := (hsJ.r (by decide)).trans v.2.2.2.1
    have hN8 := v.1
    have hS8 := v.2.1
    have hw0 := x_win_lt i (tS I c.toNatClampNeg) (by omega)
    have hc1 : nI i ≤ nI i := Int32.le_refl _
    refine gp_iload_n dX9_bestSack_4 rfl ?_
    refine gp_aload_n dX9_bestSack_5 rfl ?_
    refine gp_giv dX9_bestSack_6 mf_9_120 (by decide) (by first | rfl | assumption | (simp only [*]; done)) (by first | exact m1 | exact m0 | exact rfl) ?_
    refine gp_icc (t := 35) dX9_bestSack_9 (by decide) c2_ge (fun h1 => ?_) (fun h1 => ?_)
    · have h1' := Int32.not_lt.mpr h1
      refine gp_iload_n dX9_bestSack_35 rfl ?_
      refine gp_iret dX9_bestSack_36 rfl ?_
      exact pX.mk rfl hsJ
    · exact absurd hc1 h1
  | succ n ih =>
    intro i J hi hi0 hsJ
    have m0 : J 108 0 = nI N := (hsJ.r (by decide)).trans v.2.2.1
    have m1 : J 108 1 = nI S := (hsJ.r (by decide)).trans v.2.2.2.1
    have hN8 := v.1
    have hS8 := v.2.1
    have hw0 := x_win_lt i (tS I c.toNatClampNeg) (by omega)
    have hc1 : ¬ nI S ≤ nI i := nI_ge (by omega) (by omega)
    refine gp_iload_n dX9_bestSack_4 rfl ?_
    refine gp_aload_n dX9_bestSack_5 rfl ?_
    refine gp_giv dX9_bestSack_6 mf_9_120 (by decide) (by first | rfl | assumption | (simp only [*]; done)) (by first | exact m1 | exact m0 | exact rfl) ?_
    refine gp_icc (t := 35) dX9_bestSack_9 (by decide) c2_ge (fun h1 => ?_) (fun h1 => ?_)
    · exact absurd h1 hc1
    · have h1' := Int32.not_le.mp h1
      (try simp only [Classical.not_not] at h1)
      refine gp_aload_n dX9_bestSack_12 rfl ?_
      refine gp_iload_n dX9_bestSack_13 rfl ?_
      refine gp_iload_n dX9_bestSack_14 rfl ?_
      refine gp_callX (kind := 1) (args := [.ref _, .int _, .int _]) (rest := _) dX9_bestSack_15 (Or.inr (Or.inl ⟨rfl, rfl⟩)) mk_9_302 (by decide) me_181 rfl rfl rfl rfl rfl (mm_rc_of (by first | rfl | assumption | (simp only [*]; done))) (mn_inWith _ v (by first | exact hK1 | exact hsJ) hc (by omega)) ?_
      intro K1 hK1
      refine gp_aload_n dX9_bestSack_18 rfl ?_
      refine gp_iload_n dX9_bestSack_19 rfl ?_
      refine gp_iload_n dX9_bestSack_20 rfl ?_
      refine gp_callX (kind := 1) (args := [.ref _, .int _, .int _]) (rest := _) dX9_bestSack_21 (Or.inr (Or.inl ⟨rfl, rfl⟩)) mk_9_302 (by decide) me_181 rfl rfl rfl rfl rfl (mm_rc_of (by first | rfl | assumption | (simp only [*]; done))) (mn_inWith _ v (by first | exact hK1 | exact hsJ) hc (by omega)) ?_
      intro K2 hK2
      refine gp_icc (t := 29) dX9_bestSack_24 (by decide) c2_ge (fun h2 => ?_) (fun h2 => ?_)
      · have h2' := Int32.not_lt.mpr h2
        (try simp only [Classical.not_not] at h2)
        refine gp_iinc (v := (1)) (ls' := [some (.ref _), some (.int _), some (.int _), some (.int _)]) dX9_bestSack_29 rfl (by decide) rfl ?_
        refine gp_goto (t := 4) dX9_bestSack_32 (by decide) ?_
        (rw [nI_1]
         have hx := x_win_f (T := tS I c.toNatClampNeg) (i := i) (by omega) h2
         have ih' := ih (i + 1) K2 (by omega) (by omega) hK2
         rw [hx] at ih'
         exact ih')
      · have h2' := Int32.not_le.mp h2
        (try simp only [Classical.not_not] at h2)
        refine gp_iload_n dX9_bestSack_27 rfl ?_
        refine gp_istore_n (ls' := [some (.ref _), some (.int _), some (.int _), some (.int _)]) dX9_bestSack_28 rfl (Nat.le_of_ble_eq_true rfl) ?_
        refine gp_iinc (v := (1)) (ls' := [some (.ref _), some (.int _), some (.int _), some (.int _)]) dX9_bestSack_29 rfl (by decide) rfl ?_
        refine gp_goto (t := 4) dX9_bestSack_32 (by decide) ?_
        (rw [nI_1]
         have hx := x_win_t (T := tS I c.toNatClampNeg) (i := i) (by omega) h2'
         have ih' := ih (i + 1) K2 (by omega) (by omega) hK2
         rw [hx] at ih'
         exact ih')

set_option maxHeartbeats 400000 in
theorem lp_first (d : Nat) (v : vN I N S)  : ∀ (n i : Nat) (J : pI), i + n = N → 0 < i → mR I C J → gP mm_cs0 (d + 7) 9 false (some .int) cX9_firstIn 4 [some (.ref 108), some (.int (nI (x_win i (tC I)))), some (.int (nI i))] [] (mm_sh, mm_R, J, L) (pX (some (.int (nI (x_win N (tC I))))) L (mR I C)) := by
  intro n
  induction n with
  | zero =>
    intro i J hi hi0 hsJ
    obtain rfl : i = N := by omega
    have m0 : J 108 0 = nI i := (hsJ.r (by decide)).trans v.2.2.1
    have m1 : J 108 1 = nI S := (hsJ.r (by decide)).trans v.2.2.2.1
    have hN8 := v.1
    have hS8 := v.2.1
    have hw0 := x_win_lt i (tC I) (by omega)
    have hc1 : nI i ≤ nI i := Int32.le_refl _
    refine gp_iload_n dX9_firstIn_4 rfl ?_
    refine gp_aload_n dX9_firstIn_5 rfl ?_
    refine gp_giv dX9_firstIn_6 mf_9_117 (by decide) (by first | rfl | assumption | (simp only [*]; done)) (by first | exact m1 | exact m0 | exact rfl) ?_
    refine gp_icc (t := 33) dX9_firstIn_9 (by decide) c2_ge (fun h1 => ?_) (fun h1 => ?_)
    · have h1' := Int32.not_lt.mpr h1
      refine gp_iload_n dX9_firstIn_33 rfl ?_
      refine gp_iret dX9_firstIn_34 rfl ?_
      exact pX.mk rfl hsJ
    · exact absurd hc1 h1
  | succ n ih =>
    intro i J hi hi0 hsJ
    have m0 : J 108 0 = nI N := (hsJ.r (by decide)).trans v.2.2.1
    have m1 : J 108 1 = nI S := (hsJ.r (by decide)).trans v.2.2.2.1
    have hN8 := v.1
    have hS8 := v.2.1
    have hw0 := x_win_lt i (tC I) (by omega)
    have hc1 : ¬ nI N ≤ nI i := nI_ge (by omega) (by omega)
    refine gp_iload_n dX9_firstIn_4 rfl ?_
    refine gp_aload_n dX9_firstIn_5 rfl ?_
    refine gp_giv dX9_firstIn_6 mf_9_117 (by decide) (by first | rfl | assumption | (simp only [*]; done)) (by first | exact m1 | exact m0 | exact rfl) ?_
    refine gp_icc (t := 33) dX9_firstIn_9 (by decide) c2_ge (fun h1 => ?_) (fun h1 => ?_)
    · exact absurd h1 hc1
    · have h1' := Int32.not_le.mp h1
      (try simp only [Classical.not_not] at h1)
      refine gp_aload_n dX9_firstIn_12 rfl ?_
      refine gp_iload_n dX9_firstIn_13 rfl ?_
      refine gp_callX (kind := 1) (args := [.ref _, .int _]) (rest := _) dX9_firstIn_14 (Or.inr (Or.inl ⟨rfl, rfl⟩)) mk_9_293 (by decide) me_180 rfl rfl rfl rfl rfl (mm_rc_of (by first | rfl | assumption | (simp only [*]; done))) (mn_inOf _ v (by first | exact hK1 | exact hsJ) (by omega)) ?_
      intro K1 hK1
      refine gp_aload_n dX9_firstIn_17 rfl ?_
      refine gp_iload_n dX9_firstIn_18 rfl ?_
      refine gp_callX (kind := 1) (args := [.ref _, .int _]) (rest := _) dX9_firstIn_19 (Or.inr (Or.inl ⟨rfl, rfl⟩)) mk_9_293 (by decide) me_180 rfl rfl rfl rfl rfl (mm_rc_of (by first | rfl | assumption | (simp only [*]; done))) (mn_inOf _ v (by first | exact hK1 | exact hsJ) (by omega)) ?_
      intro K2 hK2
      refine gp_icc (t := 27) dX9_firstIn_22 (by decide) c2_ge (fun h2 => ?_) (fun h2 => ?_)
      · have h2' := Int32.not_lt.mpr h2
        (try simp only [Classical.not_not] at h2)
        refine gp_iinc (v := (1)) (ls' := [some (.ref _), some (.int _), some (.int _)]) dX9_firstIn_27 rfl (by decide) rfl ?_
        refine gp_goto (t := 4) dX9_firstIn_30 (by decide) ?_
        (rw [nI_1]
         have hx := x_win_f (T := tC I) (i := i) (by omega) h2
         have ih' := ih (i + 1) K2 (by omega) (by omega) hK2
         rw [hx] at ih'
         exact ih')
      · have h2' := Int32.not_le.mp h2
        (try simp only [Classical.not_not] at h2)
        refine gp_iload_n dX9_firstIn_25 rfl ?_
        refine gp_istore_n (ls' := [some (.ref _), some (.int _), some (.int _)]) dX9_firstIn_26 rfl (Nat.le_of_ble_eq_true rfl) ?_
        refine gp_iinc (v := (1)) (ls' := [some (.ref _), some (.int _), some (.int _)]) dX9_firstIn_27 rfl (by decide) rfl ?_
        refine gp_goto (t := 4) dX9_firstIn_30 (by decide) ?_
        (rw [nI_1]
         have hx := x_win_t (T := tC I) (i := i) (by omega) h2'
         have ih' := ih (i + 1) K2 (by omega) (by omega) hK2
         rw [hx] at ih'
         exact ih')

set_option maxHeartbeats 400000 in
theorem ml_how (d : Nat) (v : vN I N S) (hs : mR I C J) {c : Int32} (hc : 0 ≤ c ∧ c < nI N) : cP (d + 8) 189 [.ref 108, .int c] (mm_sh, mm_R, J, L) (pX (some (.int (nI (x_win 7 (tK I c.toNatClampNeg))))) L (mR I C)) := by
  refine cP.of_gP (d := d + 7) me_189 ⟨Nat.le_of_ble_eq_true rfl, rfl⟩ ?_
  show gP mm_cs0 _ _ _ _ _ _ [some (.ref _), some (.int _), none, none] [] _ _
  refine gp_pu (st' := .int (0) :: _) dX9_how_0 rfl ?_
  refine gp_istore_n (ls' := [some (.ref _), some (.int _), some (.int _), none]) dX9_how_1 rfl (Nat.le_of_ble_eq_true rfl) ?_
  refine gp_pu (st' := .int (1) :: _) dX9_how_2 rfl ?_
  refine gp_istore_n (ls' := [some (.ref _), some (.int _), some (.int _), some (.int _)]) dX9_how_3 rfl (Nat.le_of_ble_eq_true rfl) ?_
  exact lp_how d v hc 6 1 J (by omega) (by omega) hs

set_option maxHeartbeats 400000 in
theorem ml_bsack (d : Nat) (v : vN I N S) (hs : mR I C J) {c : Int32} (hc : 0 ≤ c ∧ c < nI N) (hS0 : 0 < S) : cP (d + 8) 190 [.ref 108, .int c] (mm_sh, mm_R, J, L) (pX (some (.int (nI (x_win S (tS I c.toNatClampNeg))))) L (mR I C)) := by
  refine cP.of_gP (d := d + 7) me_190 ⟨Nat.le_of_ble_eq_true rfl, rfl⟩ ?_
  show gP mm_cs0 _ _ _ _ _ _ [some (.ref _), some (.int _), none, none] [] _ _
  refine gp_pu (st' := .int (0) :: _) dX9_bestSack_0 rfl ?_
  refine gp_istore_n (ls' := [some (.ref _), some (.int _), some (.int _), none]) dX9_bestSack_1 rfl (Nat.le_of_ble_eq_true rfl) ?_
  refine gp_pu (st' := .int (1) :: _) dX9_bestSack_2 rfl ?_
  refine gp_istore_n (ls' := [some (.ref _), some (.int _), some (.int _), some (.int _)]) dX9_bestSack_3 rfl (Nat.le_of_ble_eq_true rfl) ?_
  exact lp_bsack d v hc (S - 1) 1 J (by omega) (by omega) hs

set_option maxHeartbeats 400000 in
theorem ml_first (d : Nat) (v : vN I N S) (hs : mR I C J) (hN0 : 0 < N) : cP (d + 8) 187 [.ref 108] (mm_sh, mm_R, J, L) (pX (some (.int (nI (x_win N (tC I))))) L (mR I C)) := by
  refine cP.of_gP (d := d + 7) me_187 ⟨Nat.le_of_ble_eq_true rfl, rfl⟩ ?_
  show gP mm_cs0 _ _ _ _ _ _ [some (.ref _), none, none] [] _ _
  refine gp_pu (st' := .int (0) :: _) dX9_firstIn_0 rfl ?_
  refine gp_istore_n (ls' := [some (.ref _), some (.int _), none]) dX9_firstIn_1 rfl (Nat.le_of_ble_eq_true rfl) ?_
  refine gp_pu (st' := .int (1) :: _) dX9_firstIn_2 rfl ?_
  refine gp_istore_n (ls' := [some (.ref _), some (.int _), some (.int _)]) dX9_firstIn_3 rfl (Nat.le_of_ble_eq_true rfl) ?_
  exact lp_first d v (N - 1) 1 J (by omega) (by omega) hs

def w_be (N S : Nat) (c w : Int32) : Int32 := if ¬ (0 ≤ c ∧ c < nI N) then -1 else if w < 0 ∨ 3 < w ∨ (w = 2 ∧ S = 0) then -5 else 0
theorem w_be_w (N S : Nat) (c w : Int32) : w_be N S c w = 0 ∨ isW (w_be N S c w) := by unfold w_be; (repeat' split) <;> first | exact Or.inl rfl | (right; unfold isW; decide)
def q_be (I : pI) (S : Nat) (c : Nat) (w : Int32) : Int32 := if w = 0 then nI (x_win 7 (tK I c)) else if w = 2 then nI (x_win S (tS I c)) else if w = 1 then bi (tK I c 3 < tK I c 5) else bi (tR I c 1 < tR I c 0)

set_option maxHeartbeats 400000 in
theorem cl_best (d : Nat) (hb : bR I N S) {c w : Int32} : cP (d + 7) 80 [.ref 0, .int c, .int w] (mm_sh, mm_R, I, L) (pX (some (.int (vq (w_be N S c w) (q_be I S c.toNatClampNeg w)))) L (sc (rI I (w_be N S c w)))) := by
  have hs := sc.rf I
  have e11 : I 1 1 = nI N := hb.c11 hs
  have e13 : I 1 3 = nI S := hb.c13 hs
  refine cP.of_gP (d := d + 6) me_80 ⟨Nat.le_of_ble_eq_true rfl, rfl⟩ ?_
  show gP mm_cs0 _ _ _ _ _ _ [some (.ref _), some (.int _), some (.int _)] [] _ _
  refine gp_aload_n dX8_best_0 rfl ?_
  refine gp_gr dX8_best_1 mf_8_10 rfl (by first | rfl | assumption | (simp only [*]; done)) (by first | rfl | assumption | (simp only [*]; done)) ?_
  refine gp_iload_n dX8_best_4 rfl ?_
  refine gp_call (kind := 1) (args := [.ref _, .int _]) (rest := _) dX8_best_5 (Or.inr (Or.inl ⟨rfl, rfl⟩)) mk_8_126 (by decide) me_3 rfl rfl rfl rfl rfl (mm_rc_of (by first | rfl | assumption | (simp only [*]; done))) (ok_X1_hasChild _ _ _ _ rfl _) rfl ?_
  refine gp_ifc (t := 17) dX8_best_8 (by decide) c1_ne (fun h1 => ?_) (fun h1 => ?_)
  · (try simp only [bi_0, bi_1, Classical.not_not, e11, e13, nI_0f hb.n.2.1] at h1)
    refine gp_iload_n dX8_best_17 rfl ?_
    refine gp_ifc (t := 41) dX8_best_18 (by decide) c1_lt (fun h2 => ?_) (fun h2 => ?_)
    · have h2' := Int32.not_le.mpr h2
      (try simp only [bi_0, bi_1, Classical.not_not, e11, e13, nI_0f hb.n.2.1] at h2)
      refine gp_aload_n dX8_best_41 rfl ?_
      refine gp_pu (st' := .int (-5) :: _) dX8_best_42 rfl ?_
      refine gp_call (kind := 1) (args := [.ref _, .int _]) (rest := _) dX8_best_44 (Or.inr (Or.inl ⟨rfl, rfl⟩)) mk_8_79 (by decide) me_100 rfl rfl rfl rfl rfl (mm_rc_of (by first | rfl | assumption | (simp only [*]; done))) (ok_X8_refuse _ _ _ _) rfl ?_
      refine gp_iret dX8_best_47 rfl ?_
      (refine cNo ?zqa ?zqc; (case zqa => (first | ((simp [w_be, *]; done)) | (exfalso; first | contradiction | (simp_all; done)))); (case zqc => (unfold isW; decide)))
    · have h2' := Int32.not_lt.mp h2
      (try simp only [bi_0, bi_1, Classical.not_not, e11, e13, nI_0f hb.n.2.1] at h2)
      refine gp_iload_n dX8_best_21 rfl ?_
      refine gp_pu (st' := .int (3) :: _) dX8_best_22 rfl ?_
      refine gp_icc (t := 41) dX8_best_23 (by decide) c2_gt (fun h3 => ?_) (fun h3 => ?_)
      · have h3' := Int32.not_le.mpr h3
        (try simp only [bi_0, bi_1, Classical.not_not, e11, e13, nI_0f hb.n.2.1] at h3)
        refine gp_aload_n dX8_best_41 rfl ?_
        refine gp_pu (st' := .int (-5) :: _) dX8_best_42 rfl ?_
        refine gp_call (kind := 1) (args := [.ref _, .int _]) (rest := _) dX8_best_44 (Or.inr (Or.inl ⟨rfl, rfl⟩)) mk_8_79 (by decide) me_100 rfl rfl rfl rfl rfl (mm_rc_of (by first | rfl | assumption | (simp only [*]; done))) (ok_X8_refuse _ _ _ _) rfl ?_
        refine gp_iret dX8_best_47 rfl ?_
        (refine cNo ?zqa ?zqc; (case zqa => (first | ((simp [w_be, *]; done)) | (exfalso; first | contradiction | (simp_all; done)))); (case zqc => (unfold isW; decide)))
      · have h3' := Int32.not_lt.mp h3
        (try simp only [bi_0, bi_1, Classical.not_not, e11, e13, nI_0f hb.n.2.1] at h3)
        refine gp_iload_n dX8_best_26 rfl ?_
        refine gp_pu (st' := .int (2) :: _) dX8_best_27 rfl ?_
        refine gp_icc (t := 48) dX8_best_28 (by decide) c2_ne (fun h4 => ?_) (fun h4 => ?_)
        · (try simp only [bi_0, bi_1, Classical.not_not, e11, e13, nI_0f hb.n.2.1] at h4)
          refine gp_iload_n dX8_best_48 rfl ?_
          rcases sb_3 (x := w) (by assumption) (by assumption) with hsw | hsw | hsw | hsw
          · refine gp_ts (t := 76) dX8_best_49 (by rw [hsw]; rfl) (by decide) ?_
            refine gp_aload_n dX8_best_76 rfl ?_
            refine gp_iload_n dX8_best_77 rfl ?_
            refine gp_callX (kind := 1) (args := [.ref _, .int _]) (rest := _) dX8_best_78 (Or.inr (Or.inl ⟨rfl, rfl⟩)) mk_8_281 (by decide) me_117 rfl rfl rfl rfl rfl (mm_rc_of (by first | rfl | assumption | (simp only [*]; done))) (ct_bestKind _ hb (by assumption)) ?_
            intro K1 hK1
            refine gp_iret dX8_best_81 rfl ?_
            first | (refine cOk ?zqa ?zqb hK1; (case zqa => (first | ((simp [w_be, *]; done)) | (exfalso; first | contradiction | (simp_all; done)))); (case zqb => (first | ((simp [q_be, hsw]; done)) | (exfalso; first | contradiction | (simp_all; done)))))
          · refine gp_ts (t := 82) dX8_best_49 (by rw [hsw]; rfl) (by decide) ?_
            refine gp_aload_n dX8_best_82 rfl ?_
            refine gp_iload_n dX8_best_83 rfl ?_
            refine gp_pu (st' := .int (3) :: _) dX8_best_84 rfl ?_
            refine gp_callX (kind := 1) (args := [.ref _, .int _, .int _]) (rest := _) dX8_best_85 (Or.inr (Or.inl ⟨rfl, rfl⟩)) mk_8_284 (by decide) me_110 rfl rfl rfl rfl rfl (mm_rc_of (by first | rfl | assumption | (simp only [*]; done))) (ct_timeAs (k := 3) _ hb hs (by assumption) (by decide)) ?_
            intro K1 hK1
            refine gp_aload_n dX8_best_88 rfl ?_
            refine gp_iload_n dX8_best_89 rfl ?_
            refine gp_pu (st' := .int (5) :: _) dX8_best_90 rfl ?_
            refine gp_callX (kind := 1) (args := [.ref _, .int _, .int _]) (rest := _) dX8_best_91 (Or.inr (Or.inl ⟨rfl, rfl⟩)) mk_8_284 (by decide) me_110 rfl rfl rfl rfl rfl (mm_rc_of (by first | rfl | assumption | (simp only [*]; done))) (ct_timeAs (k := 5) _ hb hK1 (by assumption) (by decide)) ?_
            intro K2 hK2
            refine gp_icc (t := 101) dX8_best_94 (by decide) c2_ge (fun h5 => ?_) (fun h5 => ?_)
            · have h5' := Int32.not_lt.mpr h5
              (try simp only [bi_0, bi_1, Classical.not_not, e11, e13, nI_0f hb.n.2.1] at h5)
              refine gp_pu (st' := .int (0) :: _) dX8_best_101 rfl ?_
              refine gp_call (kind := 0) (args := [.int _]) (rest := _) dX8_best_102 (Or.inl ⟨rfl, rfl⟩) mk_8_237 (by decide) me_105 rfl rfl rfl rfl rfl rfl (ok_X8_bit _ _ _ _) rfl ?_
              refine gp_iret dX8_best_105 rfl ?_
              first | (refine cOk ?zqa ?zqb hK2; (case zqa => (first | ((simp [w_be, *]; done)) | (exfalso; first | contradiction | (simp_all; done)))); (case zqb => (first | ((simp [q_be, hsw, bi, *]; done)) | (exfalso; first | contradiction | (simp_all; done)))))
            · have h5' := Int32.not_le.mp h5
              (try simp only [bi_0, bi_1, Classical.not_not, e11, e13, nI_0f hb.n.2.1] at h5)
              refine gp_pu (st' := .int (1) :: _) dX8_best_97 rfl ?_
              refine gp_goto (t := 102) dX8_best_98 (by decide) ?_
              refine gp_call (kind := 0) (args := [.int _]) (rest := _) dX8_best_102 (Or.inl ⟨rfl, rfl⟩) mk_8_237 (by decide) me_105 rfl rfl rfl rfl rfl rfl (ok_X8_bit _ _ _ _) rfl ?_
              refine gp_iret dX8_best_105 rfl ?_
              first | (refine cOk ?zqa ?zqb hK2; (case zqa => (first | ((simp [w_be, *]; done)) | (exfalso; first | contradiction | (simp_all; done)))); (case zqb => (first | ((simp [q_be, hsw, bi, *]; done)) | (exfalso; first | contradiction | (simp_all; done)))))
          · refine gp_ts (t := 106) dX8_best_49 (by rw [hsw]; rfl) (by decide) ?_
            have zqS : 0 < S := by first | omega | (exfalso; contradiction)
            refine gp_aload_n dX8_best_106 rfl ?_
            refine gp_iload_n dX8_best_107 rfl ?_
            refine gp_callX (kind := 1) (args := [.ref _, .int _]) (rest := _) dX8_best_108 (Or.inr (Or.inl ⟨rfl, rfl⟩)) mk_8_287 (by decide) me_118 rfl rfl rfl rfl rfl (mm_rc_of (by first | rfl | assumption | (simp only [*]; done))) (ct_bestSack _ hb zqS (by assumption)) ?_
            intro K1 hK1
            refine gp_iret dX8_best_111 rfl ?_
            first | (refine cOk ?zqa ?zqb hK1; (case zqa => (first | ((simp [w_be, *]; done)) | (exfalso; first | contradiction | (simp_all; done)))); (case zqb => (first | ((simp [q_be, hsw]; done)) | (exfalso; first | contradiction | (simp_all; done)))))
          · refine gp_ts (t := 112) dX8_best_49 (by rw [hsw]; rfl) (by decide) ?_
            refine gp_aload_n dX8_best_112 rfl ?_
            refine gp_iload_n dX8_best_113 rfl ?_
            refine gp_pu (st' := .int (1) :: _) dX8_best_114 rfl ?_
            refine gp_callX (kind := 1) (args := [.ref _, .int _, .int _]) (rest := _) dX8_best_115 (Or.inr (Or.inl ⟨rfl, rfl⟩)) mk_8_290 (by decide) me_112 rfl rfl rfl rfl rfl (mm_rc_of (by first | rfl | assumption | (simp only [*]; done))) (ct_timeRolling _ hb hs (by assumption) (Or.inr rfl)) ?_
            intro K1 hK1
            refine gp_aload_n dX8_best_118 rfl ?_
            refine gp_iload_n dX8_best_119 rfl ?_
            refine gp_pu (st' := .int (0) :: _) dX8_best_120 rfl ?_
            refine gp_callX (kind := 1) (args := [.ref _, .int _, .int _]) (rest := _) dX8_best_121 (Or.inr (Or.inl ⟨rfl, rfl⟩)) mk_8_290 (by decide) me_112 rfl rfl rfl rfl rfl (mm_rc_of (by first | rfl | assumption | (simp only [*]; done))) (ct_timeRolling _ hb hK1 (by assumption) (Or.inl rfl)) ?_
            intro K2 hK2
            refine gp_icc (t := 131) dX8_best_124 (by decide) c2_ge (fun h6 => ?_) (fun h6 => ?_)
            · have h6' := Int32.not_lt.mpr h6
              (try simp only [bi_0, bi_1, Classical.not_not, e11, e13, nI_0f hb.n.2.1] at h6)
              refine gp_pu (st' := .int (0) :: _) dX8_best_131 rfl ?_
              refine gp_call (kind := 0) (args := [.int _]) (rest := _) dX8_best_132 (Or.inl ⟨rfl, rfl⟩) mk_8_237 (by decide) me_105 rfl rfl rfl rfl rfl rfl (ok_X8_bit _ _ _ _) rfl ?_
              refine gp_iret dX8_best_135 rfl ?_
              first | (refine cOk ?zqa ?zqb hK2; (case zqa => (first | ((simp [w_be, *]; done)) | (exfalso; first | contradiction | (simp_all; done)))); (case zqb => (first | ((simp [q_be, hsw, bi, *]; done)) | (exfalso; first | contradiction | (simp_all; done)))))
            · have h6' := Int32.not_le.mp h6
              (try simp only [bi_0, bi_1, Classical.not_not, e11, e13, nI_0f hb.n.2.1] at h6)
              refine gp_pu (st' := .int (1) :: _) dX8_best_127 rfl ?_
              refine gp_goto (t := 132) dX8_best_128 (by decide) ?_
              refine gp_call (kind := 0) (args := [.int _]) (rest := _) dX8_best_132 (Or.inl ⟨rfl, rfl⟩) mk_8_237 (by decide) me_105 rfl rfl rfl rfl rfl rfl (ok_X8_bit _ _ _ _) rfl ?_
              refine gp_iret dX8_best_135 rfl ?_
              first | (refine cOk ?zqa ?zqb hK2; (case zqa => (first | ((simp [w_be, *]; done)) | (exfalso; first | contradiction | (simp_all; done)))); (case zqb => (first | ((simp [q_be, hsw, bi, *]; done)) | (exfalso; first | contradiction | (simp_all; done)))))
        · (try simp only [bi_0, bi_1, Classical.not_not, e11, e13, nI_0f hb.n.2.1] at h4)
          refine gp_aload_n dX8_best_31 rfl ?_
          refine gp_gr dX8_best_32 mf_8_10 rfl (by first | rfl | assumption | (simp only [*]; done)) (by first | rfl | assumption | (simp only [*]; done)) ?_
          refine gp_giv dX8_best_35 mf_8_161 (by decide) (by first | rfl | assumption | (simp only [*]; done)) (by first | exact rfl) ?_
          refine gp_ifc (t := 48) dX8_best_38 (by decide) c1_ne (fun h7 => ?_) (fun h7 => ?_)
          · (try simp only [bi_0, bi_1, Classical.not_not, e11, e13, nI_0f hb.n.2.1] at h7)
            refine gp_iload_n dX8_best_48 rfl ?_
            rcases sb_3 (x := w) (by assumption) (by assumption) with hsw | hsw | hsw | hsw
            · refine gp_ts (t := 76) dX8_best_49 (by rw [hsw]; rfl) (by decide) ?_
              refine gp_aload_n dX8_best_76 rfl ?_
              refine gp_iload_n dX8_best_77 rfl ?_
              refine gp_callX (kind := 1) (args := [.ref _, .int _]) (rest := _) dX8_best_78 (Or.inr (Or.inl ⟨rfl, rfl⟩)) mk_8_281 (by decide) me_117 rfl rfl rfl rfl rfl (mm_rc_of (by first | rfl | assumption | (simp only [*]; done))) (ct_bestKind _ hb (by assumption)) ?_
              intro K1 hK1
              refine gp_iret dX8_best_81 rfl ?_
              first | (refine cOk ?zqa ?zqb hK1; (case zqa => (first | ((simp [w_be, *]; done)) | (exfalso; first | contradiction | (simp_all; done)))); (case zqb => (first | ((simp [q_be, hsw]; done)) | (exfalso; first | contradiction | (simp_all; done)))))
            · refine gp_ts (t := 82) dX8_best_49 (by rw [hsw]; rfl) (by decide) ?_
              refine gp_aload_n dX8_best_82 rfl ?_
              refine gp_iload_n dX8_best_83 rfl ?_
              refine gp_pu (st' := .int (3) :: _) dX8_best_84 rfl ?_
              refine gp_callX (kind := 1) (args := [.ref _, .int _, .int _]) (rest := _) dX8_best_85 (Or.inr (Or.inl ⟨rfl, rfl⟩)) mk_8_284 (by decide) me_110 rfl rfl rfl rfl rfl (mm_rc_of (by first | rfl | assumption | (simp only [*]; done))) (ct_timeAs (k := 3) _ hb hs (by assumption) (by decide)) ?_
              intro K1 hK1
              refine gp_aload_n dX8_best_88 rfl ?_
              refine gp_iload_n dX8_best_89 rfl ?_
              refine gp_pu (st' := .int (5) :: _) dX8_best_90 rfl ?_
              refine gp_callX (kind := 1) (args := [.ref _, .int _, .int _]) (rest := _) dX8_best_91 (Or.inr (Or.inl ⟨rfl, rfl⟩)) mk_8_284 (by decide) me_110 rfl rfl rfl rfl rfl (mm_rc_of (by first | rfl | assumption | (simp only [*]; done))) (ct_timeAs (k := 5) _ hb hK1 (by assumption) (by decide)) ?_
              intro K2 hK2
              refine gp_icc (t := 101) dX8_best_94 (by decide) c2_ge (fun h8 => ?_) (fun h8 => ?_)
              · have h8' := Int32.not_lt.mpr h8
                (try simp only [bi_0, bi_1, Classical.not_not, e11, e13, nI_0f hb.n.2.1] at h8)
                refine gp_pu (st' := .int (0) :: _) dX8_best_101 rfl ?_
                refine gp_call (kind := 0) (args := [.int _]) (rest := _) dX8_best_102 (Or.inl ⟨rfl, rfl⟩) mk_8_237 (by decide) me_105 rfl rfl rfl rfl rfl rfl (ok_X8_bit _ _ _ _) rfl ?_
                refine gp_iret dX8_best_105 rfl ?_
                first | (refine cOk ?zqa ?zqb hK2; (case zqa => (first | ((simp [w_be, *]; done)) | (exfalso; first | contradiction | (simp_all; done)))); (case zqb => (first | ((simp [q_be, hsw, bi, *]; done)) | (exfalso; first | contradiction | (simp_all; done)))))
              · have h8' := Int32.not_le.mp h8
                (try simp only [bi_0, bi_1, Classical.not_not, e11, e13, nI_0f hb.n.2.1] at h8)
                refine gp_pu (st' := .int (1) :: _) dX8_best_97 rfl ?_
                refine gp_goto (t := 102) dX8_best_98 (by decide) ?_
                refine gp_call (kind := 0) (args := [.int _]) (rest := _) dX8_best_102 (Or.inl ⟨rfl, rfl⟩) mk_8_237 (by decide) me_105 rfl rfl rfl rfl rfl rfl (ok_X8_bit _ _ _ _) rfl ?_
                refine gp_iret dX8_best_105 rfl ?_
                first | (refine cOk ?zqa ?zqb hK2; (case zqa => (first | ((simp [w_be, *]; done)) | (exfalso; first | contradiction | (simp_all; done)))); (case zqb => (first | ((simp [q_be, hsw, bi, *]; done)) | (exfalso; first | contradiction | (simp_all; done)))))
            · refine gp_ts (t := 106) dX8_best_49 (by rw [hsw]; rfl) (by decide) ?_
              have zqS : 0 < S := by first | omega | (exfalso; contradiction)
              refine gp_aload_n dX8_best_106 rfl ?_
              refine gp_iload_n dX8_best_107 rfl ?_
              refine gp_callX (kind := 1) (args := [.ref _, .int _]) (rest := _) dX8_best_108 (Or.inr (Or.inl ⟨rfl, rfl⟩)) mk_8_287 (by decide) me_118 rfl rfl rfl rfl rfl (mm_rc_of (by first | rfl | assumption | (simp only [*]; done))) (ct_bestSack _ hb zqS (by assumption)) ?_
              intro K1 hK1
              refine gp_iret dX8_best_111 rfl ?_
              first | (refine cOk ?zqa ?zqb hK1; (case zqa => (first | ((simp [w_be, *]; done)) | (exfalso; first | contradiction | (simp_all; done)))); (case zqb => (first | ((simp [q_be, hsw]; done)) | (exfalso; first | contradiction | (simp_all; done)))))
            · refine gp_ts (t := 112) dX8_best_49 (by rw [hsw]; rfl) (by decide) ?_
              refine gp_aload_n dX8_best_112 rfl ?_
              refine gp_iload_n dX8_best_113 rfl ?_
              refine gp_pu (st' := .int (1) :: _) dX8_best_114 rfl ?_
              refine gp_callX (kind := 1) (args := [.ref _, .int _, .int _]) (rest := _) dX8_best_115 (Or.inr (Or.inl ⟨rfl, rfl⟩)) mk_8_290 (by decide) me_112 rfl rfl rfl rfl rfl (mm_rc_of (by first | rfl | assumption | (simp only [*]; done))) (ct_timeRolling _ hb hs (by assumption) (Or.inr rfl)) ?_
              intro K1 hK1
              refine gp_aload_n dX8_best_118 rfl ?_
              refine gp_iload_n dX8_best_119 rfl ?_
              refine gp_pu (st' := .int (0) :: _) dX8_best_120 rfl ?_
              refine gp_callX (kind := 1) (args := [.ref _, .int _, .int _]) (rest := _) dX8_best_121 (Or.inr (Or.inl ⟨rfl, rfl⟩)) mk_8_290 (by decide) me_112 rfl rfl rfl rfl rfl (mm_rc_of (by first | rfl | assumption | (simp only [*]; done))) (ct_timeRolling _ hb hK1 (by assumption) (Or.inl rfl)) ?_
              intro K2 hK2
              refine gp_icc (t := 131) dX8_best_124 (by decide) c2_ge (fun h9 => ?_) (fun h9 => ?_)
              · have h9' := Int32.not_lt.mpr h9
                (try simp only [bi_0, bi_1, Classical.not_not, e11, e13, nI_0f hb.n.2.1] at h9)
                refine gp_pu (st' := .int (0) :: _) dX8_best_131 rfl ?_
                refine gp_call (kind := 0) (args := [.int _]) (rest := _) dX8_best_132 (Or.inl ⟨rfl, rfl⟩) mk_8_237 (by decide) me_105 rfl rfl rfl rfl rfl rfl (ok_X8_bit _ _ _ _) rfl ?_
                refine gp_iret dX8_best_135 rfl ?_
                first | (refine cOk ?zqa ?zqb hK2; (case zqa => (first | ((simp [w_be, *]; done)) | (exfalso; first | contradiction | (simp_all; done)))); (case zqb => (first | ((simp [q_be, hsw, bi, *]; done)) | (exfalso; first | contradiction | (simp_all; done)))))
              · have h9' := Int32.not_le.mp h9
                (try simp only [bi_0, bi_1, Classical.not_not, e11, e13, nI_0f hb.n.2.1] at h9)
                refine gp_pu (st' := .int (1) :: _) dX8_best_127 rfl ?_
                refine gp_goto (t := 132) dX8_best_128 (by decide) ?_
                refine gp_call (kind := 0) (args := [.int _]) (rest := _) dX8_best_132 (Or.inl ⟨rfl, rfl⟩) mk_8_237 (by decide) me_105 rfl rfl rfl rfl rfl rfl (ok_X8_bit _ _ _ _) rfl ?_
                refine gp_iret dX8_best_135 rfl ?_
                first | (refine cOk ?zqa ?zqb hK2; (case zqa => (first | ((simp [w_be, *]; done)) | (exfalso; first | contradiction | (simp_all; done)))); (case zqb => (first | ((simp [q_be, hsw, bi, *]; done)) | (exfalso; first | contradiction | (simp_all; done)))))
          · (try simp only [bi_0, bi_1, Classical.not_not, e11, e13, nI_0f hb.n.2.1] at h7)
            refine gp_aload_n dX8_best_41 rfl ?_
            refine gp_pu (st' := .int (-5) :: _) dX8_best_42 rfl ?_
            refine gp_call (kind := 1) (args := [.ref _, .int _]) (rest := _) dX8_best_44 (Or.inr (Or.inl ⟨rfl, rfl⟩)) mk_8_79 (by decide) me_100 rfl rfl rfl rfl rfl (mm_rc_of (by first | rfl | assumption | (simp only [*]; done))) (ok_X8_refuse _ _ _ _) rfl ?_
            refine gp_iret dX8_best_47 rfl ?_
            (refine cNo ?zqa ?zqc; (case zqa => (first | ((simp [w_be, *]; done)) | (exfalso; first | contradiction | (simp_all; done)))); (case zqc => (unfold isW; decide)))
  · (try simp only [bi_0, bi_1, Classical.not_not, e11, e13, nI_0f hb.n.2.1] at h1)
    refine gp_aload_n dX8_best_11 rfl ?_
    refine gp_pu (st' := .int (-1) :: _) dX8_best_12 rfl ?_
    refine gp_call (kind := 1) (args := [.ref _, .int _]) (rest := _) dX8_best_13 (Or.inr (Or.inl ⟨rfl, rfl⟩)) mk_8_79 (by decide) me_100 rfl rfl rfl rfl rfl (mm_rc_of (by first | rfl | assumption | (simp only [*]; done))) (ok_X8_refuse _ _ _ _) rfl ?_
    refine gp_iret dX8_best_16 rfl ?_
    (refine cNo ?zqa ?zqc; (case zqa => (first | ((simp [w_be, *]; done)) | (exfalso; first | contradiction | (simp_all; done)))); (case zqc => (unfold isW; decide)))

set_option maxHeartbeats 400000 in
theorem ml_best (d : Nat) (v : vN I N S) (hs : mR I C J) {c w : Int32} : cP (d + 9) 191 [.ref 108, .int c, .int w] (mm_sh, mm_R, J, L) (pX (some (.int (vq (w_be N S c w) (q_be I S c.toNatClampNeg w)))) L (mR (rM I (w_be N S c w)) C)) := by
  have m0 : J 108 0 = nI N := (hs.r (by decide)).trans v.2.2.1
  have m1 : J 108 1 = nI S := (hs.r (by decide)).trans v.2.2.2.1
  refine cP.of_gP (d := d + 8) me_191 ⟨Nat.le_of_ble_eq_true rfl, rfl⟩ ?_
  show gP mm_cs0 _ _ _ _ _ _ [some (.ref _), some (.int _), some (.int _)] [] _ _
  refine gp_aload_n dX9_best_0 rfl ?_
  refine gp_iload_n dX9_best_1 rfl ?_
  refine gp_call (kind := 1) (args := [.ref _, .int _]) (rest := _) dX9_best_2 (Or.inr (Or.inl ⟨rfl, rfl⟩)) mk_9_131 (by decide) me_130 rfl rfl rfl rfl rfl (mm_rc_of (by first | rfl | assumption | (simp only [*]; done))) (ok_X9_isChild _ _ _ _) rfl ?_
  refine gp_ifc (t := 14) dX9_best_5 (by decide) c1_ne (fun h1 => ?_) (fun h1 => ?_)
  · (try simp only [bi_0, bi_1, Classical.not_not, m0, m1, nI_0f v.2.1] at h1)
    refine gp_iload_n dX9_best_14 rfl ?_
    refine gp_ifc (t := 35) dX9_best_15 (by decide) c1_lt (fun h2 => ?_) (fun h2 => ?_)
    · have h2' := Int32.not_le.mpr h2
      (try simp only [bi_0, bi_1, Classical.not_not, m0, m1, nI_0f v.2.1] at h2)
      refine gp_aload_n dX9_best_35 rfl ?_
      refine gp_pu (st' := .int (-5) :: _) dX9_best_36 rfl ?_
      refine gp_call (kind := 1) (args := [.ref _, .int _]) (rest := _) dX9_best_38 (Or.inr (Or.inl ⟨rfl, rfl⟩)) mk_9_127 (by decide) me_127 rfl rfl rfl rfl rfl (mm_rc_of (by first | rfl | assumption | (simp only [*]; done))) (ok_X9_no _ _ _ _ (by decide)) rfl ?_
      refine gp_iret dX9_best_41 rfl ?_
      first | (refine mNo ?zqa ?zqc hs; (case zqa => (first | ((simp [w_be, *]; done)) | (exfalso; first | contradiction | (simp_all; done)))); (case zqc => (unfold isW; decide)))
    · have h2' := Int32.not_lt.mp h2
      (try simp only [bi_0, bi_1, Classical.not_not, m0, m1, nI_0f v.2.1] at h2)
      refine gp_iload_n dX9_best_18 rfl ?_
      refine gp_pu (st' := .int (3) :: _) dX9_best_19 rfl ?_
      refine gp_icc (t := 35) dX9_best_20 (by decide) c2_gt (fun h3 => ?_) (fun h3 => ?_)
      · have h3' := Int32.not_le.mpr h3
        (try simp only [bi_0, bi_1, Classical.not_not, m0, m1, nI_0f v.2.1] at h3)
        refine gp_aload_n dX9_best_35 rfl ?_
        refine gp_pu (st' := .int (-5) :: _) dX9_best_36 rfl ?_
        refine gp_call (kind := 1) (args := [.ref _, .int _]) (rest := _) dX9_best_38 (Or.inr (Or.inl ⟨rfl, rfl⟩)) mk_9_127 (by decide) me_127 rfl rfl rfl rfl rfl (mm_rc_of (by first | rfl | assumption | (simp only [*]; done))) (ok_X9_no _ _ _ _ (by decide)) rfl ?_
        refine gp_iret dX9_best_41 rfl ?_
        first | (refine mNo ?zqa ?zqc hs; (case zqa => (first | ((simp [w_be, *]; done)) | (exfalso; first | contradiction | (simp_all; done)))); (case zqc => (unfold isW; decide)))
      · have h3' := Int32.not_lt.mp h3
        (try simp only [bi_0, bi_1, Classical.not_not, m0, m1, nI_0f v.2.1] at h3)
        refine gp_iload_n dX9_best_23 rfl ?_
        refine gp_pu (st' := .int (2) :: _) dX9_best_24 rfl ?_
        refine gp_icc (t := 42) dX9_best_25 (by decide) c2_ne (fun h4 => ?_) (fun h4 => ?_)
        · (try simp only [bi_0, bi_1, Classical.not_not, m0, m1, nI_0f v.2.1] at h4)
          refine gp_iload_n dX9_best_42 rfl ?_
          refine gp_ifc (t := 52) dX9_best_43 (by decide) c1_ne (fun h5 => ?_) (fun h5 => ?_)
          · (try simp only [bi_0, bi_1, Classical.not_not, m0, m1, nI_0f v.2.1] at h5)
            refine gp_iload_n dX9_best_52 rfl ?_
            refine gp_pu (st' := .int (2) :: _) dX9_best_53 rfl ?_
            refine gp_icc (t := 63) dX9_best_54 (by decide) c2_ne (fun h6 => ?_) (fun h6 => ?_)
            · (try simp only [bi_0, bi_1, Classical.not_not, m0, m1, nI_0f v.2.1] at h6)
              refine gp_iload_n dX9_best_63 rfl ?_
              refine gp_pu (st' := .int (1) :: _) dX9_best_64 rfl ?_
              refine gp_icc (t := 89) dX9_best_65 (by decide) c2_ne (fun h7 => ?_) (fun h7 => ?_)
              · (try simp only [bi_0, bi_1, Classical.not_not, m0, m1, nI_0f v.2.1] at h7)
                refine gp_aload_n dX9_best_89 rfl ?_
                refine gp_iload_n dX9_best_90 rfl ?_
                refine gp_pu (st' := .int (1) :: _) dX9_best_91 rfl ?_
                refine gp_callX (kind := 1) (args := [.ref _, .int _, .int _]) (rest := _) dX9_best_92 (Or.inr (Or.inl ⟨rfl, rfl⟩)) mk_9_311 (by decide) me_184 rfl rfl rfl rfl rfl (mm_rc_of (by first | rfl | assumption | (simp only [*]; done))) (mt_inRolling _ _ v hs (by assumption) _) ?_
                intro K1 hK1
                refine gp_aload_n dX9_best_95 rfl ?_
                refine gp_iload_n dX9_best_96 rfl ?_
                refine gp_pu (st' := .int (0) :: _) dX9_best_97 rfl ?_
                refine gp_callX (kind := 1) (args := [.ref _, .int _, .int _]) (rest := _) dX9_best_98 (Or.inr (Or.inl ⟨rfl, rfl⟩)) mk_9_311 (by decide) me_184 rfl rfl rfl rfl rfl (mm_rc_of (by first | rfl | assumption | (simp only [*]; done))) (mt_inRolling _ _ v hK1 (by assumption) _) ?_
                intro K2 hK2
                refine gp_icc (t := 108) dX9_best_101 (by decide) c2_ge (fun h8 => ?_) (fun h8 => ?_)
                · have h8' := Int32.not_lt.mpr h8
                  (try simp only [bi_0, bi_1, Classical.not_not, m0, m1, nI_0f v.2.1] at h8)
                  refine gp_pu (st' := .int (0) :: _) dX9_best_108 rfl ?_
                  refine gp_iret dX9_best_109 rfl ?_
                  first | (refine mOk ?zqa ?zqb hK2; (case zqa => (first | ((simp [w_be, *]; done)) | (exfalso; first | contradiction | (simp_all; done)))); (case zqb => (first | ((simp [q_be, bi, tR, *]; done)) | (exfalso; first | contradiction | (simp_all; done)))))
                · have h8' := Int32.not_le.mp h8
                  (try simp only [bi_0, bi_1, Classical.not_not, m0, m1, nI_0f v.2.1] at h8)
                  refine gp_pu (st' := .int (1) :: _) dX9_best_104 rfl ?_
                  refine gp_goto (t := 109) dX9_best_105 (by decide) ?_
                  refine gp_iret dX9_best_109 rfl ?_
                  first | (refine mOk ?zqa ?zqb hK2; (case zqa => (first | ((simp [w_be, *]; done)) | (exfalso; first | contradiction | (simp_all; done)))); (case zqb => (first | ((simp [q_be, bi, tR, *]; done)) | (exfalso; first | contradiction | (simp_all; done)))))
              · (try simp only [bi_0, bi_1, Classical.not_not, m0, m1, nI_0f v.2.1] at h7)
                refine gp_aload_n dX9_best_68 rfl ?_
                refine gp_iload_n dX9_best_69 rfl ?_
                refine gp_pu (st' := .int (3) :: _) dX9_best_70 rfl ?_
                refine gp_callX (kind := 1) (args := [.ref _, .int _, .int _]) (rest := _) dX9_best_71 (Or.inr (Or.inl ⟨rfl, rfl⟩)) mk_9_299 (by decide) me_182 rfl rfl rfl rfl rfl (mm_rc_of (by first | rfl | assumption | (simp only [*]; done))) (mn_inAs (k := 3) _ v hs (by assumption) (by decide)) ?_
                intro K1 hK1
                refine gp_aload_n dX9_best_74 rfl ?_
                refine gp_iload_n dX9_best_75 rfl ?_
                refine gp_pu (st' := .int (5) :: _) dX9_best_76 rfl ?_
                refine gp_callX (kind := 1) (args := [.ref _, .int _, .int _]) (rest := _) dX9_best_77 (Or.inr (Or.inl ⟨rfl, rfl⟩)) mk_9_299 (by decide) me_182 rfl rfl rfl rfl rfl (mm_rc_of (by first | rfl | assumption | (simp only [*]; done))) (mn_inAs (k := 5) _ v hK1 (by assumption) (by decide)) ?_
                intro K2 hK2
                refine gp_icc (t := 87) dX9_best_80 (by decide) c2_ge (fun h9 => ?_) (fun h9 => ?_)
                · have h9' := Int32.not_lt.mpr h9
                  (try simp only [bi_0, bi_1, Classical.not_not, m0, m1, nI_0f v.2.1] at h9)
                  refine gp_pu (st' := .int (0) :: _) dX9_best_87 rfl ?_
                  refine gp_iret dX9_best_88 rfl ?_
                  first | (refine mOk ?zqa ?zqb hK2; (case zqa => (first | ((simp [w_be, *]; done)) | (exfalso; first | contradiction | (simp_all; done)))); (case zqb => (first | ((simp [q_be, bi, *]; done)) | (exfalso; first | contradiction | (simp_all; done)))))
                · have h9' := Int32.not_le.mp h9
                  (try simp only [bi_0, bi_1, Classical.not_not, m0, m1, nI_0f v.2.1] at h9)
                  refine gp_pu (st' := .int (1) :: _) dX9_best_83 rfl ?_
                  refine gp_goto (t := 88) dX9_best_84 (by decide) ?_
                  refine gp_iret dX9_best_88 rfl ?_
                  first | (refine mOk ?zqa ?zqb hK2; (case zqa => (first | ((simp [w_be, *]; done)) | (exfalso; first | contradiction | (simp_all; done)))); (case zqb => (first | ((simp [q_be, bi, *]; done)) | (exfalso; first | contradiction | (simp_all; done)))))
            · (try simp only [bi_0, bi_1, Classical.not_not, m0, m1, nI_0f v.2.1] at h6)
              have zqS : 0 < S := by first | omega | (exfalso; contradiction)
              refine gp_aload_n dX9_best_57 rfl ?_
              refine gp_iload_n dX9_best_58 rfl ?_
              refine gp_callX (kind := 1) (args := [.ref _, .int _]) (rest := _) dX9_best_59 (Or.inr (Or.inl ⟨rfl, rfl⟩)) mk_9_308 (by decide) me_190 rfl rfl rfl rfl rfl (mm_rc_of (by first | rfl | assumption | (simp only [*]; done))) (ml_bsack _ v hs (by assumption) zqS) ?_
              intro K1 hK1
              refine gp_iret dX9_best_62 rfl ?_
              first | (refine mOk ?zqa ?zqb hK1; (case zqa => (first | ((simp [w_be, *]; done)) | (exfalso; first | contradiction | (simp_all; done)))); (case zqb => (first | ((simp [q_be, *]; done)) | (exfalso; first | contradiction | (simp_all; done)))))
          · (try simp only [bi_0, bi_1, Classical.not_not, m0, m1, nI_0f v.2.1] at h5)
            refine gp_aload_n dX9_best_46 rfl ?_
            refine gp_iload_n dX9_best_47 rfl ?_
            refine gp_callX (kind := 1) (args := [.ref _, .int _]) (rest := _) dX9_best_48 (Or.inr (Or.inl ⟨rfl, rfl⟩)) mk_9_305 (by decide) me_189 rfl rfl rfl rfl rfl (mm_rc_of (by first | rfl | assumption | (simp only [*]; done))) (ml_how _ v hs (by assumption)) ?_
            intro K1 hK1
            refine gp_iret dX9_best_51 rfl ?_
            first | (refine mOk ?zqa ?zqb hK1; (case zqa => (first | ((simp [w_be, *]; done)) | (exfalso; first | contradiction | (simp_all; done)))); (case zqb => (first | ((simp [q_be, *]; done)) | (exfalso; first | contradiction | (simp_all; done)))))
        · (try simp only [bi_0, bi_1, Classical.not_not, m0, m1, nI_0f v.2.1] at h4)
          refine gp_aload_n dX9_best_28 rfl ?_
          refine gp_giv dX9_best_29 mf_9_120 (by decide) (by first | rfl | assumption | (simp only [*]; done)) (by first | exact m1 | exact rfl) ?_
          refine gp_ifc (t := 42) dX9_best_32 (by decide) c1_ne (fun h10 => ?_) (fun h10 => ?_)
          · (try simp only [bi_0, bi_1, Classical.not_not, m0, m1, nI_0f v.2.1] at h10)
            refine gp_iload_n dX9_best_42 rfl ?_
            refine gp_ifc (t := 52) dX9_best_43 (by decide) c1_ne (fun h11 => ?_) (fun h11 => ?_)
            · (try simp only [bi_0, bi_1, Classical.not_not, m0, m1, nI_0f v.2.1] at h11)
              refine gp_iload_n dX9_best_52 rfl ?_
              refine gp_pu (st' := .int (2) :: _) dX9_best_53 rfl ?_
              refine gp_icc (t := 63) dX9_best_54 (by decide) c2_ne (fun h12 => ?_) (fun h12 => ?_)
              · (try simp only [bi_0, bi_1, Classical.not_not, m0, m1, nI_0f v.2.1] at h12)
                refine gp_iload_n dX9_best_63 rfl ?_
                refine gp_pu (st' := .int (1) :: _) dX9_best_64 rfl ?_
                refine gp_icc (t := 89) dX9_best_65 (by decide) c2_ne (fun h13 => ?_) (fun h13 => ?_)
                · (try simp only [bi_0, bi_1, Classical.not_not, m0, m1, nI_0f v.2.1] at h13)
                  refine gp_aload_n dX9_best_89 rfl ?_
                  refine gp_iload_n dX9_best_90 rfl ?_
                  refine gp_pu (st' := .int (1) :: _) dX9_best_91 rfl ?_
                  refine gp_callX (kind := 1) (args := [.ref _, .int _, .int _]) (rest := _) dX9_best_92 (Or.inr (Or.inl ⟨rfl, rfl⟩)) mk_9_311 (by decide) me_184 rfl rfl rfl rfl rfl (mm_rc_of (by first | rfl | assumption | (simp only [*]; done))) (mt_inRolling _ _ v hs (by assumption) _) ?_
                  intro K1 hK1
                  refine gp_aload_n dX9_best_95 rfl ?_
                  refine gp_iload_n dX9_best_96 rfl ?_
                  refine gp_pu (st' := .int (0) :: _) dX9_best_97 rfl ?_
                  refine gp_callX (kind := 1) (args := [.ref _, .int _, .int _]) (rest := _) dX9_best_98 (Or.inr (Or.inl ⟨rfl, rfl⟩)) mk_9_311 (by decide) me_184 rfl rfl rfl rfl rfl (mm_rc_of (by first | rfl | assumption | (simp only [*]; done))) (mt_inRolling _ _ v hK1 (by assumption) _) ?_
                  intro K2 hK2
                  refine gp_icc (t := 108) dX9_best_101 (by decide) c2_ge (fun h14 => ?_) (fun h14 => ?_)
                  · have h14' := Int32.not_lt.mpr h14
                    (try simp only [bi_0, bi_1, Classical.not_not, m0, m1, nI_0f v.2.1] at h14)
                    refine gp_pu (st' := .int (0) :: _) dX9_best_108 rfl ?_
                    refine gp_iret dX9_best_109 rfl ?_
                    first | (refine mOk ?zqa ?zqb hK2; (case zqa => (first | ((simp [w_be, *]; done)) | (exfalso; first | contradiction | (simp_all; done)))); (case zqb => (first | ((simp [q_be, bi, tR, *]; done)) | (exfalso; first | contradiction | (simp_all; done)))))
                  · have h14' := Int32.not_le.mp h14
                    (try simp only [bi_0, bi_1, Classical.not_not, m0, m1, nI_0f v.2.1] at h14)
                    refine gp_pu (st' := .int (1) :: _) dX9_best_104 rfl ?_
                    refine gp_goto (t := 109) dX9_best_105 (by decide) ?_
                    refine gp_iret dX9_best_109 rfl ?_
                    first | (refine mOk ?zqa ?zqb hK2; (case zqa => (first | ((simp [w_be, *]; done)) | (exfalso; first | contradiction | (simp_all; done)))); (case zqb => (first | ((simp [q_be, bi, tR, *]; done)) | (exfalso; first | contradiction | (simp_all; done)))))
                · (try simp only [bi_0, bi_1, Classical.not_not, m0, m1, nI_0f v.2.1] at h13)
                  refine gp_aload_n dX9_best_68 rfl ?_
                  refine gp_iload_n dX9_best_69 rfl ?_
                  refine gp_pu (st' := .int (3) :: _) dX9_best_70 rfl ?_
                  refine gp_callX (kind := 1) (args := [.ref _, .int _, .int _]) (rest := _) dX9_best_71 (Or.inr (Or.inl ⟨rfl, rfl⟩)) mk_9_299 (by decide) me_182 rfl rfl rfl rfl rfl (mm_rc_of (by first | rfl | assumption | (simp only [*]; done))) (mn_inAs (k := 3) _ v hs (by assumption) (by decide)) ?_
                  intro K1 hK1
                  refine gp_aload_n dX9_best_74 rfl ?_
                  refine gp_iload_n dX9_best_75 rfl ?_
                  refine gp_pu (st' := .int (5) :: _) dX9_best_76 rfl ?_
                  refine gp_callX (kind := 1) (args := [.ref _, .int _, .int _]) (rest := _) dX9_best_77 (Or.inr (Or.inl ⟨rfl, rfl⟩)) mk_9_299 (by decide) me_182 rfl rfl rfl rfl rfl (mm_rc_of (by first | rfl | assumption | (simp only [*]; done))) (mn_inAs (k := 5) _ v hK1 (by assumption) (by decide)) ?_
                  intro K2 hK2
                  refine gp_icc (t := 87) dX9_best_80 (by decide) c2_ge (fun h15 => ?_) (fun h15 => ?_)
                  · have h15' := Int32.not_lt.mpr h15
                    (try simp only [bi_0, bi_1, Classical.not_not, m0, m1, nI_0f v.2.1] at h15)
                    refine gp_pu (st' := .int (0) :: _) dX9_best_87 rfl ?_
                    refine gp_iret dX9_best_88 rfl ?_
                    first | (refine mOk ?zqa ?zqb hK2; (case zqa => (first | ((simp [w_be, *]; done)) | (exfalso; first | contradiction | (simp_all; done)))); (case zqb => (first | ((simp [q_be, bi, *]; done)) | (exfalso; first | contradiction | (simp_all; done)))))
                  · have h15' := Int32.not_le.mp h15
                    (try simp only [bi_0, bi_1, Classical.not_not, m0, m1, nI_0f v.2.1] at h15)
                    refine gp_pu (st' := .int (1) :: _) dX9_best_83 rfl ?_
                    refine gp_goto (t := 88) dX9_best_84 (by decide) ?_
                    refine gp_iret dX9_best_88 rfl ?_
                    first | (refine mOk ?zqa ?zqb hK2; (case zqa => (first | ((simp [w_be, *]; done)) | (exfalso; first | contradiction | (simp_all; done)))); (case zqb => (first | ((simp [q_be, bi, *]; done)) | (exfalso; first | contradiction | (simp_all; done)))))
              · (try simp only [bi_0, bi_1, Classical.not_not, m0, m1, nI_0f v.2.1] at h12)
                have zqS : 0 < S := by first | omega | (exfalso; contradiction)
                refine gp_aload_n dX9_best_57 rfl ?_
                refine gp_iload_n dX9_best_58 rfl ?_
                refine gp_callX (kind := 1) (args := [.ref _, .int _]) (rest := _) dX9_best_59 (Or.inr (Or.inl ⟨rfl, rfl⟩)) mk_9_308 (by decide) me_190 rfl rfl rfl rfl rfl (mm_rc_of (by first | rfl | assumption | (simp only [*]; done))) (ml_bsack _ v hs (by assumption) zqS) ?_
                intro K1 hK1
                refine gp_iret dX9_best_62 rfl ?_
                first | (refine mOk ?zqa ?zqb hK1; (case zqa => (first | ((simp [w_be, *]; done)) | (exfalso; first | contradiction | (simp_all; done)))); (case zqb => (first | ((simp [q_be, *]; done)) | (exfalso; first | contradiction | (simp_all; done)))))
            · (try simp only [bi_0, bi_1, Classical.not_not, m0, m1, nI_0f v.2.1] at h11)
              refine gp_aload_n dX9_best_46 rfl ?_
              refine gp_iload_n dX9_best_47 rfl ?_
              refine gp_callX (kind := 1) (args := [.ref _, .int _]) (rest := _) dX9_best_48 (Or.inr (Or.inl ⟨rfl, rfl⟩)) mk_9_305 (by decide) me_189 rfl rfl rfl rfl rfl (mm_rc_of (by first | rfl | assumption | (simp only [*]; done))) (ml_how _ v hs (by assumption)) ?_
              intro K1 hK1
              refine gp_iret dX9_best_51 rfl ?_
              first | (refine mOk ?zqa ?zqb hK1; (case zqa => (first | ((simp [w_be, *]; done)) | (exfalso; first | contradiction | (simp_all; done)))); (case zqb => (first | ((simp [q_be, *]; done)) | (exfalso; first | contradiction | (simp_all; done)))))
          · (try simp only [bi_0, bi_1, Classical.not_not, m0, m1, nI_0f v.2.1] at h10)
            refine gp_aload_n dX9_best_35 rfl ?_
            refine gp_pu (st' := .int (-5) :: _) dX9_best_36 rfl ?_
            refine gp_call (kind := 1) (args := [.ref _, .int _]) (rest := _) dX9_best_38 (Or.inr (Or.inl ⟨rfl, rfl⟩)) mk_9_127 (by decide) me_127 rfl rfl rfl rfl rfl (mm_rc_of (by first | rfl | assumption | (simp only [*]; done))) (ok_X9_no _ _ _ _ (by decide)) rfl ?_
            refine gp_iret dX9_best_41 rfl ?_
            first | (refine mNo ?zqa ?zqc hs; (case zqa => (first | ((simp [w_be, *]; done)) | (exfalso; first | contradiction | (simp_all; done)))); (case zqc => (unfold isW; decide)))
  · (try simp only [bi_0, bi_1, Classical.not_not, m0, m1, nI_0f v.2.1] at h1)
    refine gp_aload_n dX9_best_8 rfl ?_
    refine gp_pu (st' := .int (-1) :: _) dX9_best_9 rfl ?_
    refine gp_call (kind := 1) (args := [.ref _, .int _]) (rest := _) dX9_best_10 (Or.inr (Or.inl ⟨rfl, rfl⟩)) mk_9_127 (by decide) me_127 rfl rfl rfl rfl rfl (mm_rc_of (by first | rfl | assumption | (simp only [*]; done))) (ok_X9_no _ _ _ _ (by decide)) rfl ?_
    refine gp_iret dX9_best_13 rfl ?_
    first | (refine mNo ?zqa ?zqc hs; (case zqa => (first | ((simp [w_be, *]; done)) | (exfalso; first | contradiction | (simp_all; done)))); (case zqc => (unfold isW; decide)))

theorem eq_best (c w : Int32) : eqc 80 191 [.int c, .int w] := by
  refine eqc_q fun I L hR => ?_
  obtain ⟨N, S, hb, hS, hL, hK, hT, hW, hE⟩ := hR
  refine ⟨_, w_be N S c w, w_be_w N S c w, cl_best 33 hb, fun C J hs => ml_best 31 hb.1 hs⟩

def w_wi (N : Nat) (w : Int32) : Int32 := if w < 0 ∨ 1 < w ∨ N = 0 then -5 else 0
theorem w_wi_w (N : Nat) (w : Int32) : w_wi N w = 0 ∨ isW (w_wi N w) := by unfold w_wi; (repeat' split) <;> first | exact Or.inl rfl | (right; unfold isW; decide)
def q_wi (I : pI) (N : Nat) (w : Int32) : Int32 := if w = 0 then nI (x_win N (tC I)) else x_lead (nI (x_win N (tC I))) (tC I) N
def y_nx (w : Int32) (T : Nat → Int32) : Nat → Int32
  | 0 => -1
  | n + 1 => if nI n = w then y_nx w T n else if y_nx w T n = -1 ∨ T n < y_nx w T n then T n else y_nx w T n
theorem y_nx_e {w : Int32} {T : Nat → Int32} {n : Nat} (h : nI n = w) : y_nx w T (n + 1) = y_nx w T n := if_pos h
theorem y_nx_a {w : Int32} {T : Nat → Int32} {n : Nat} (h : ¬ nI n = w) (h2 : y_nx w T n = -1) : y_nx w T (n + 1) = T n := by rw [y_nx, if_neg h, if_pos (Or.inl h2)]
theorem y_nx_b {w : Int32} {T : Nat → Int32} {n : Nat} (h : ¬ nI n = w) (h2 : T n < y_nx w T n) : y_nx w T (n + 1) = T n := by rw [y_nx, if_neg h, if_pos (Or.inr h2)]
theorem y_nx_c {w : Int32} {T : Nat → Int32} {n : Nat} (h : ¬ nI n = w) (h2 : ¬ y_nx w T n = -1) (h3 : y_nx w T n ≤ T n) : y_nx w T (n + 1) = y_nx w T n := by
  rw [y_nx, if_neg h, if_neg]
  rintro (a | a)
  · exact h2 a
  · exact absurd h3 (Int32.not_le.mpr a)
theorem y_x_nx {w : Int32} {T : Nat → Int32} (n : Nat) (h : ∀ k, k < n → wi (T k) 0 999) : (y_nx w T n = -1 ∧ x_nxt w T n = 1000) ∨ (y_nx w T n = x_nxt w T n ∧ wi (y_nx w T n) 0 999) := by
  induction n with
  | zero => exact Or.inl ⟨rfl, rfl⟩
  | succ n ih =>
    have ih := ih (fun k hk => h k (by omega))
    have hn := h n (by omega)
    unfold y_nx x_nxt
    by_cases z : nI n = w
    · rw [if_pos z, if_pos z]; exact ih
    · rw [if_neg z, if_neg z]
      rcases ih with ⟨a, b⟩ | ⟨a, b⟩
      · rw [if_pos (Or.inl a), b, i_min, if_pos (wi_lt hn)]
        exact Or.inr ⟨rfl, hn⟩
      · have a1 : ¬ y_nx w T n = -1 := by
          intro q; rw [q] at b; exact absurd b.1 (by decide)
        right
        by_cases y : T n < y_nx w T n
        · rw [if_pos (Or.inr y), i_min, ← a, if_pos y]; exact ⟨rfl, hn⟩
        · rw [if_neg (by rintro (q | q); exact a1 q; exact y q), i_min, ← a, if_neg y]; exact ⟨rfl, b⟩
theorem y_x_lead {w : Nat} {T : Nat → Int32} {n : Nat} (hw : w < 2 ^ 31) (h : ∀ k, k < n → wi (T k) 0 999) : (if y_nx (nI w) T n = -1 then 0 else y_nx (nI w) T n - T w) = x_lead (nI w) T n := by
  unfold x_lead
  rw [nI_clamp hw]
  rcases y_x_nx (w := nI w) n h with ⟨a, b⟩ | ⟨a, b⟩
  · rw [if_pos a, b, if_neg (by decide)]
  · rw [if_neg (by intro q; rw [q] at b; exact absurd b.1 (by decide)), ← a, if_pos (wi_le b)]

set_option maxHeartbeats 400000 in
theorem cl_wins (d : Nat) (hb : bR I N S) {w : Int32} : cP (d + 7) 79 [.ref 0, .int w] (mm_sh, mm_R, I, L) (pX (some (.int (vq (w_wi N w) (q_wi I N w)))) L (sc (rI I (w_wi N w)))) := by
  have hs := sc.rf I
  have e11 : I 1 1 = nI N := hb.c11 hs
  have e13 : I 1 3 = nI S := hb.c13 hs
  refine cP.of_gP (d := d + 6) me_79 ⟨Nat.le_of_ble_eq_true rfl, rfl⟩ ?_
  show gP mm_cs0 _ _ _ _ _ _ [some (.ref _), some (.int _), none] [] _ _
  refine gp_iload_n dX8_wins_0 rfl ?_
  refine gp_ifc (t := 19) dX8_wins_1 (by decide) c1_lt (fun h1 => ?_) (fun h1 => ?_)
  · have h1' := Int32.not_le.mpr h1
    (try simp only [bi_0, bi_1, Classical.not_not, e11, e13, nI_0f hb.n.1] at h1)
    refine gp_aload_n dX8_wins_19 rfl ?_
    refine gp_pu (st' := .int (-5) :: _) dX8_wins_20 rfl ?_
    refine gp_call (kind := 1) (args := [.ref _, .int _]) (rest := _) dX8_wins_22 (Or.inr (Or.inl ⟨rfl, rfl⟩)) mk_8_79 (by decide) me_100 rfl rfl rfl rfl rfl (mm_rc_of (by first | rfl | assumption | (simp only [*]; done))) (ok_X8_refuse _ _ _ _) rfl ?_
    refine gp_iret dX8_wins_25 rfl ?_
    (refine cNo ?zqa ?zqc; (case zqa => (first | ((simp [w_wi, *]; done)) | (exfalso; first | contradiction | (simp_all; done)))); (case zqc => (unfold isW; decide)))
  · have h1' := Int32.not_lt.mp h1
    (try simp only [bi_0, bi_1, Classical.not_not, e11, e13, nI_0f hb.n.1] at h1)
    refine gp_iload_n dX8_wins_4 rfl ?_
    refine gp_pu (st' := .int (1) :: _) dX8_wins_5 rfl ?_
    refine gp_icc (t := 19) dX8_wins_6 (by decide) c2_gt (fun h2 => ?_) (fun h2 => ?_)
    · have h2' := Int32.not_le.mpr h2
      (try simp only [bi_0, bi_1, Classical.not_not, e11, e13, nI_0f hb.n.1] at h2)
      refine gp_aload_n dX8_wins_19 rfl ?_
      refine gp_pu (st' := .int (-5) :: _) dX8_wins_20 rfl ?_
      refine gp_call (kind := 1) (args := [.ref _, .int _]) (rest := _) dX8_wins_22 (Or.inr (Or.inl ⟨rfl, rfl⟩)) mk_8_79 (by decide) me_100 rfl rfl rfl rfl rfl (mm_rc_of (by first | rfl | assumption | (simp only [*]; done))) (ok_X8_refuse _ _ _ _) rfl ?_
      refine gp_iret dX8_wins_25 rfl ?_
      (refine cNo ?zqa ?zqc; (case zqa => (first | ((simp [w_wi, *]; done)) | (exfalso; first | contradiction | (simp_all; done)))); (case zqc => (unfold isW; decide)))
    · have h2' := Int32.not_lt.mp h2
      (try simp only [bi_0, bi_1, Classical.not_not, e11, e13, nI_0f hb.n.1] at h2)
      refine gp_aload_n dX8_wins_9 rfl ?_
      refine gp_gr dX8_wins_10 mf_8_10 rfl (by first | rfl | assumption | (simp only [*]; done)) (by first | rfl | assumption | (simp only [*]; done)) ?_
      refine gp_giv dX8_wins_13 mf_8_154 (by decide) (by first | rfl | assumption | (simp only [*]; done)) (by first | exact e11 | exact rfl) ?_
      refine gp_ifc (t := 26) dX8_wins_16 (by decide) c1_ne (fun h3 => ?_) (fun h3 => ?_)
      · (try simp only [bi_0, bi_1, Classical.not_not, e11, e13, nI_0f hb.n.1] at h3)
        refine gp_aload_n dX8_wins_26 rfl ?_
        refine gp_callX (kind := 1) (args := [.ref _]) (rest := _) dX8_wins_27 (Or.inr (Or.inl ⟨rfl, rfl⟩)) mk_8_271 (by decide) me_114 rfl rfl rfl rfl rfl (mm_rc_of (by first | rfl | assumption | (simp only [*]; done))) (ct_timeAll _ hb) ?_
        intro K1 hK1
        refine gp_aload_n dX8_wins_30 rfl ?_
        refine gp_callX (kind := 1) (args := [.ref _]) (rest := _) dX8_wins_31 (Or.inr (Or.inl ⟨rfl, rfl⟩)) mk_8_274 (by decide) me_115 rfl rfl rfl rfl rfl (mm_rc_of (by first | rfl | assumption | (simp only [*]; done))) (ct_winner _ hb hK1.1 hK1.2) ?_
        intro K2 hK2
        subst hK2
        refine gp_istore_n (ls' := [some (.ref _), some (.int _), some (.int _)]) dX8_wins_34 rfl (Nat.le_of_ble_eq_true rfl) ?_
        refine gp_iload_n dX8_wins_35 rfl ?_
        refine gp_ifc (t := 43) dX8_wins_36 (by decide) c1_ne (fun h4 => ?_) (fun h4 => ?_)
        · (try simp only [bi_0, bi_1, Classical.not_not, e11, e13, nI_0f hb.n.1] at h4)
          refine gp_aload_n dX8_wins_43 rfl ?_
          refine gp_iload_n dX8_wins_44 rfl ?_
          refine gp_callX (kind := 1) (args := [.ref _, .int _]) (rest := _) dX8_wins_45 (Or.inr (Or.inl ⟨rfl, rfl⟩)) mk_8_278 (by decide) me_116 rfl rfl rfl rfl rfl (mm_rc_of (by first | rfl | assumption | (simp only [*]; done))) (ct_leadOf _ hb hK1.1 hK1.2 (x_win_lt N _ (by omega))) ?_
          intro K3 hK3
          subst hK3
          refine gp_iret dX8_wins_48 rfl ?_
          first | (refine cOk ?zqa ?zqb hK1.1; (case zqa => (first | ((simp [w_wi, *]; done)) | (exfalso; first | contradiction | (simp_all; done)))); (case zqb => (first | ((simp [q_wi, *]; done)) | (exfalso; first | contradiction | (simp_all; done)))))
        · (try simp only [bi_0, bi_1, Classical.not_not, e11, e13, nI_0f hb.n.1] at h4)
          refine gp_iload_n dX8_wins_39 rfl ?_
          refine gp_goto (t := 48) dX8_wins_40 (by decide) ?_
          refine gp_iret dX8_wins_48 rfl ?_
          first | (refine cOk ?zqa ?zqb hK1.1; (case zqa => (first | ((simp [w_wi, *]; done)) | (exfalso; first | contradiction | (simp_all; done)))); (case zqb => (first | ((simp [q_wi, *]; done)) | (exfalso; first | contradiction | (simp_all; done)))))
      · (try simp only [bi_0, bi_1, Classical.not_not, e11, e13, nI_0f hb.n.1] at h3)
        refine gp_aload_n dX8_wins_19 rfl ?_
        refine gp_pu (st' := .int (-5) :: _) dX8_wins_20 rfl ?_
        refine gp_call (kind := 1) (args := [.ref _, .int _]) (rest := _) dX8_wins_22 (Or.inr (Or.inl ⟨rfl, rfl⟩)) mk_8_79 (by decide) me_100 rfl rfl rfl rfl rfl (mm_rc_of (by first | rfl | assumption | (simp only [*]; done))) (ok_X8_refuse _ _ _ _) rfl ?_
        refine gp_iret dX8_wins_25 rfl ?_
        (refine cNo ?zqa ?zqc; (case zqa => (first | ((simp [w_wi, *]; done)) | (exfalso; first | contradiction | (simp_all; done)))); (case zqc => (unfold isW; decide)))
end P71
