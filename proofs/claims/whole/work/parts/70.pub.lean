/-! PUBLIC METHODS: worn, legs -/
section P70
variable {I C J : pI} {L : pL} {N S : Nat}

/-- bits of the places that fit -/
def y_bits (T : Nat → Int32) (x : Int32) : Nat → Int32
  | 0 => 0
  | n + 1 => if T n = x then y_bits T x n ||| ((1 : Int32) <<< (nI n &&& 31)) else y_bits T x n
theorem y_bits_t {T : Nat → Int32} {x : Int32} {n : Nat} (h : T n = x) : y_bits T x (n + 1) = y_bits T x n ||| ((1 : Int32) <<< (nI n &&& 31)) := if_pos h
theorem y_bits_f {T : Nat → Int32} {x : Int32} {n : Nat} (h : ¬ T n = x) : y_bits T x (n + 1) = y_bits T x n := if_neg h

set_option maxHeartbeats 400000 in
theorem lp_cworn (d : Nat) (hb : bR I N S) {c : Int32} (hc : 0 ≤ c ∧ c < nI N) {x : Int32} : ∀ (n i : Nat) (J : pI), i + n = S → sc I J → gP mm_cs0 (d + 5) 8 false (some .int) cX8_worn 22 [some (.ref 0), some (.int c), some (.int x), some (.int (y_bits (tS I c.toNatClampNeg) x i)), some (.int (nI i))] [] (mm_sh, mm_R, J, L) (pX (some (.int (y_bits (tS I c.toNatClampNeg) x S))) L (sc I)) := by
  intro n
  induction n with
  | zero =>
    intro i J hi hsJ
    obtain rfl : i = S := by omega
    have hc1 : nI i ≤ nI i := Int32.le_refl _
    refine gp_iload dX8_worn_22 rfl ?_
    refine gp_aload_n dX8_worn_24 rfl ?_
    refine gp_gr dX8_worn_25 mf_8_10 rfl (by first | rfl | assumption | (simp only [*]; done)) (by first | rfl | assumption | (simp only [*]; done)) ?_
    refine gp_giv dX8_worn_28 mf_8_161 (by decide) (by first | rfl | assumption | (simp only [*]; done)) (by first | exact hb.c13 hsJ | exact rfl) ?_
    refine gp_icc (t := 58) dX8_worn_31 (by decide) c2_ge (fun h1 => ?_) (fun h1 => ?_)
    · have h1' := Int32.not_lt.mpr h1
      refine gp_iload_n dX8_worn_58 rfl ?_
      refine gp_iret dX8_worn_59 rfl ?_
      exact pX.mk rfl hsJ
    · exact absurd hc1 h1
  | succ n ih =>
    intro i J hi hsJ
    have hS8 := hb.n.2.1
    have hc1 : ¬ nI S ≤ nI i := nI_ge (by omega) (by omega)
    refine gp_iload dX8_worn_22 rfl ?_
    refine gp_aload_n dX8_worn_24 rfl ?_
    refine gp_gr dX8_worn_25 mf_8_10 rfl (by first | rfl | assumption | (simp only [*]; done)) (by first | rfl | assumption | (simp only [*]; done)) ?_
    refine gp_giv dX8_worn_28 mf_8_161 (by decide) (by first | rfl | assumption | (simp only [*]; done)) (by first | exact hb.c13 hsJ | exact rfl) ?_
    refine gp_icc (t := 58) dX8_worn_31 (by decide) c2_ge (fun h1 => ?_) (fun h1 => ?_)
    · exact absurd h1 hc1
    · have h1' := Int32.not_le.mp h1
      (try simp only [Classical.not_not] at h1)
      refine gp_aload_n dX8_worn_34 rfl ?_
      refine gp_iload_n dX8_worn_35 rfl ?_
      refine gp_iload dX8_worn_36 rfl ?_
      refine gp_callX (kind := 1) (args := [.ref _, .int _, .int _]) (rest := _) dX8_worn_38 (Or.inr (Or.inl ⟨rfl, rfl⟩)) mk_8_294 (by decide) me_111 rfl rfl rfl rfl rfl (mm_rc_of (by first | rfl | assumption | (simp only [*]; done))) (ct_timeIn _ hb hsJ hc (by omega)) ?_
      intro K1 hK1
      refine gp_iload_n dX8_worn_41 rfl ?_
      refine gp_icc (t := 52) dX8_worn_42 (by decide) c2_ne (fun h2 => ?_) (fun h2 => ?_)
      · (try simp only [Classical.not_not] at h2)
        refine gp_iinc (v := (1)) (ls' := [some (.ref _), some (.int _), some (.int _), some (.int _), some (.int _)]) dX8_worn_52 rfl (by decide) rfl ?_
        refine gp_goto (t := 22) dX8_worn_55 (by decide) ?_
        (rw [nI_1]; first | (rw [← y_bits_t h2]; exact ih (i + 1) _ (by omega) hK1) | (rw [← y_bits_f h2]; exact ih (i + 1) _ (by omega) hK1))
      · (try simp only [Classical.not_not] at h2)
        refine gp_iload_n dX8_worn_45 rfl ?_
        refine gp_pu (st' := .int (1) :: _) dX8_worn_46 rfl ?_
        refine gp_iload dX8_worn_47 rfl ?_
        refine gp_pu (st' := .int _ :: _) dX8_worn_49 rfl ?_
        refine gp_pu (st' := .int _ :: _) dX8_worn_50 rfl ?_
        refine gp_istore_n (ls' := [some (.ref _), some (.int _), some (.int _), some (.int _), some (.int _)]) dX8_worn_51 rfl (Nat.le_of_ble_eq_true rfl) ?_
        refine gp_iinc (v := (1)) (ls' := [some (.ref _), some (.int _), some (.int _), some (.int _), some (.int _)]) dX8_worn_52 rfl (by decide) rfl ?_
        refine gp_goto (t := 22) dX8_worn_55 (by decide) ?_
        (rw [nI_1]; first | (rw [← y_bits_t h2]; exact ih (i + 1) _ (by omega) hK1) | (rw [← y_bits_f h2]; exact ih (i + 1) _ (by omega) hK1))

set_option maxHeartbeats 400000 in
theorem cl_worn (d : Nat) (hb : bR I N S) {c x : Int32} : cP (d + 6) 91 [.ref 0, .int c, .int x] (mm_sh, mm_R, I, L) (pX (some (.int (vq (w_c N c) (y_bits (tS I c.toNatClampNeg) x S)))) L (sc (rI I (w_c N c)))) := by
  have hs := sc.rf I
  have e11 : I 1 1 = nI N := hb.c11 hs
  have e13 : I 1 3 = nI S := hb.c13 hs
  refine cP.of_gP (d := d + 5) me_91 ⟨Nat.le_of_ble_eq_true rfl, rfl⟩ ?_
  show gP mm_cs0 _ _ _ _ _ _ [some (.ref _), some (.int _), some (.int _), none, none] [] _ _
  refine gp_aload_n dX8_worn_0 rfl ?_
  refine gp_gr dX8_worn_1 mf_8_10 rfl (by first | rfl | assumption | (simp only [*]; done)) (by first | rfl | assumption | (simp only [*]; done)) ?_
  refine gp_iload_n dX8_worn_4 rfl ?_
  refine gp_call (kind := 1) (args := [.ref _, .int _]) (rest := _) dX8_worn_5 (Or.inr (Or.inl ⟨rfl, rfl⟩)) mk_8_126 (by decide) me_3 rfl rfl rfl rfl rfl (mm_rc_of (by first | rfl | assumption | (simp only [*]; done))) (ok_X1_hasChild _ _ _ _ rfl _) rfl ?_
  refine gp_ifc (t := 17) dX8_worn_8 (by decide) c1_ne (fun h1 => ?_) (fun h1 => ?_)
  · (try simp only [bi_0, bi_1, Classical.not_not, e11, e13] at h1)
    refine gp_pu (st' := .int (0) :: _) dX8_worn_17 rfl ?_
    refine gp_istore_n (ls' := [some (.ref _), some (.int _), some (.int _), some (.int _), none]) dX8_worn_18 rfl (Nat.le_of_ble_eq_true rfl) ?_
    refine gp_pu (st' := .int (0) :: _) dX8_worn_19 rfl ?_
    refine gp_istore (ls' := [some (.ref _), some (.int _), some (.int _), some (.int _), some (.int _)]) dX8_worn_20 rfl (Nat.le_of_ble_eq_true rfl) ?_
    (have hw : w_c N c = 0 := by simp [w_c, *])
    rw [hw]
    exact lp_cworn d hb (by assumption) S 0 I (by omega) hs
  · (try simp only [bi_0, bi_1, Classical.not_not, e11, e13] at h1)
    refine gp_aload_n dX8_worn_11 rfl ?_
    refine gp_pu (st' := .int (-1) :: _) dX8_worn_12 rfl ?_
    refine gp_call (kind := 1) (args := [.ref _, .int _]) (rest := _) dX8_worn_13 (Or.inr (Or.inl ⟨rfl, rfl⟩)) mk_8_79 (by decide) me_100 rfl rfl rfl rfl rfl (mm_rc_of (by first | rfl | assumption | (simp only [*]; done))) (ok_X8_refuse _ _ _ _) rfl ?_
    refine gp_iret dX8_worn_16 rfl ?_
    (refine cNo ?zqa ?zqc; (case zqa => (first | ((simp [w_c, *]; done)) | (exfalso; contradiction))); (case zqc => (unfold isW; decide)))

set_option maxHeartbeats 400000 in
theorem lp_mworn (d : Nat) (v : vN I N S) {c : Int32} (hc : 0 ≤ c ∧ c < nI N) {x : Int32} : ∀ (n i : Nat) (J : pI), i + n = S → mR I C J → gP mm_cs0 (d + 7) 9 false (some .int) cX9_worn 19 [some (.ref 108), some (.int c), some (.int x), some (.int (y_bits (tS I c.toNatClampNeg) x i)), some (.int (nI i))] [] (mm_sh, mm_R, J, L) (pX (some (.int (y_bits (tS I c.toNatClampNeg) x S))) L (mR I C)) := by
  intro n
  induction n with
  | zero =>
    intro i J hi hsJ
    obtain rfl : i = S := by omega
    have m1 : J 108 1 = nI i := (hsJ.r (by decide)).trans v.2.2.2.1
    have hS8 := v.2.1
    have hc1 : nI i ≤ nI i := Int32.le_refl _
    refine gp_iload dX9_worn_19 rfl ?_
    refine gp_aload_n dX9_worn_21 rfl ?_
    refine gp_giv dX9_worn_22 mf_9_120 (by decide) (by first | rfl | assumption | (simp only [*]; done)) (by first | exact m1 | exact rfl) ?_
    refine gp_icc (t := 52) dX9_worn_25 (by decide) c2_ge (fun h1 => ?_) (fun h1 => ?_)
    · have h1' := Int32.not_lt.mpr h1
      refine gp_iload_n dX9_worn_52 rfl ?_
      refine gp_iret dX9_worn_53 rfl ?_
      exact pX.mk rfl hsJ
    · exact absurd hc1 h1
  | succ n ih =>
    intro i J hi hsJ
    have m1 : J 108 1 = nI S := (hsJ.r (by decide)).trans v.2.2.2.1
    have hS8 := v.2.1
    have hc1 : ¬ nI S ≤ nI i := nI_ge (by omega) (by omega)
    refine gp_iload dX9_worn_19 rfl ?_
    refine gp_aload_n dX9_worn_21 rfl ?_
    refine gp_giv dX9_worn_22 mf_9_120 (by decide) (by first | rfl | assumption | (simp only [*]; done)) (by first | exact m1 | exact rfl) ?_
    refine gp_icc (t := 52) dX9_worn_25 (by decide) c2_ge (fun h1 => ?_) (fun h1 => ?_)
    · exact absurd h1 hc1
    · have h1' := Int32.not_le.mp h1
      (try simp only [Classical.not_not] at h1)
      refine gp_aload_n dX9_worn_28 rfl ?_
      refine gp_iload_n dX9_worn_29 rfl ?_
      refine gp_iload dX9_worn_30 rfl ?_
      refine gp_callX (kind := 1) (args := [.ref _, .int _, .int _]) (rest := _) dX9_worn_32 (Or.inr (Or.inl ⟨rfl, rfl⟩)) mk_9_302 (by decide) me_181 rfl rfl rfl rfl rfl (mm_rc_of (by first | rfl | assumption | (simp only [*]; done))) (mn_inWith _ v hsJ hc (by omega)) ?_
      intro K1 hK1
      refine gp_iload_n dX9_worn_35 rfl ?_
      refine gp_icc (t := 46) dX9_worn_36 (by decide) c2_ne (fun h2 => ?_) (fun h2 => ?_)
      · (try simp only [Classical.not_not] at h2)
        refine gp_iinc (v := (1)) (ls' := [some (.ref _), some (.int _), some (.int _), some (.int _), some (.int _)]) dX9_worn_46 rfl (by decide) rfl ?_
        refine gp_goto (t := 19) dX9_worn_49 (by decide) ?_
        (rw [nI_1]; first | (rw [← y_bits_t h2]; exact ih (i + 1) _ (by omega) hK1) | (rw [← y_bits_f h2]; exact ih (i + 1) _ (by omega) hK1))
      · (try simp only [Classical.not_not] at h2)
        refine gp_iload_n dX9_worn_39 rfl ?_
        refine gp_pu (st' := .int (1) :: _) dX9_worn_40 rfl ?_
        refine gp_iload dX9_worn_41 rfl ?_
        refine gp_pu (st' := .int _ :: _) dX9_worn_43 rfl ?_
        refine gp_pu (st' := .int _ :: _) dX9_worn_44 rfl ?_
        refine gp_istore_n (ls' := [some (.ref _), some (.int _), some (.int _), some (.int _), some (.int _)]) dX9_worn_45 rfl (Nat.le_of_ble_eq_true rfl) ?_
        refine gp_iinc (v := (1)) (ls' := [some (.ref _), some (.int _), some (.int _), some (.int _), some (.int _)]) dX9_worn_46 rfl (by decide) rfl ?_
        refine gp_goto (t := 19) dX9_worn_49 (by decide) ?_
        (rw [nI_1]; first | (rw [← y_bits_t h2]; exact ih (i + 1) _ (by omega) hK1) | (rw [← y_bits_f h2]; exact ih (i + 1) _ (by omega) hK1))

set_option maxHeartbeats 400000 in
theorem ml_worn (d : Nat) (v : vN I N S) (hs : mR I C J) {c x : Int32} : cP (d + 8) 205 [.ref 108, .int c, .int x] (mm_sh, mm_R, J, L) (pX (some (.int (vq (w_c N c) (y_bits (tS I c.toNatClampNeg) x S)))) L (mR (rM I (w_c N c)) C)) := by
  have m0 : J 108 0 = nI N := (hs.r (by decide)).trans v.2.2.1
  have m1 : J 108 1 = nI S := (hs.r (by decide)).trans v.2.2.2.1
  refine cP.of_gP (d := d + 7) me_205 ⟨Nat.le_of_ble_eq_true rfl, rfl⟩ ?_
  show gP mm_cs0 _ _ _ _ _ _ [some (.ref _), some (.int _), some (.int _), none, none] [] _ _
  refine gp_aload_n dX9_worn_0 rfl ?_
  refine gp_iload_n dX9_worn_1 rfl ?_
  refine gp_call (kind := 1) (args := [.ref _, .int _]) (rest := _) dX9_worn_2 (Or.inr (Or.inl ⟨rfl, rfl⟩)) mk_9_131 (by decide) me_130 rfl rfl rfl rfl rfl (mm_rc_of (by first | rfl | assumption | (simp only [*]; done))) (ok_X9_isChild _ _ _ _) rfl ?_
  refine gp_ifc (t := 14) dX9_worn_5 (by decide) c1_ne (fun h1 => ?_) (fun h1 => ?_)
  · (try simp only [bi_0, bi_1, Classical.not_not, m0, m1] at h1)
    refine gp_pu (st' := .int (0) :: _) dX9_worn_14 rfl ?_
    refine gp_istore_n (ls' := [some (.ref _), some (.int _), some (.int _), some (.int _), none]) dX9_worn_15 rfl (Nat.le_of_ble_eq_true rfl) ?_
    refine gp_pu (st' := .int (0) :: _) dX9_worn_16 rfl ?_
    refine gp_istore (ls' := [some (.ref _), some (.int _), some (.int _), some (.int _), some (.int _)]) dX9_worn_17 rfl (Nat.le_of_ble_eq_true rfl) ?_
    (have hw : w_c N c = 0 := by simp [w_c, *])
    rw [hw]
    exact lp_mworn d v (by assumption) S 0 J (by omega) hs
  · (try simp only [bi_0, bi_1, Classical.not_not, m0, m1] at h1)
    refine gp_aload_n dX9_worn_8 rfl ?_
    refine gp_pu (st' := .int (-1) :: _) dX9_worn_9 rfl ?_
    refine gp_call (kind := 1) (args := [.ref _, .int _]) (rest := _) dX9_worn_10 (Or.inr (Or.inl ⟨rfl, rfl⟩)) mk_9_127 (by decide) me_127 rfl rfl rfl rfl rfl (mm_rc_of (by first | rfl | assumption | (simp only [*]; done))) (ok_X9_no _ _ _ _ (by decide)) rfl ?_
    refine gp_iret dX9_worn_13 rfl ?_
    first | (refine mNo ?zqa ?zqc hs; (case zqa => (first | ((simp [w_c, *]; done)) | (exfalso; contradiction))); (case zqc => (unfold isW; decide)))

theorem eq_worn (c x : Int32) : eqc 91 205 [.int c, .int x] := by
  refine eqc_q fun I L hR => ?_
  obtain ⟨N, S, hb, hS, hL, hK, hT, hW, hE⟩ := hR
  refine ⟨_, w_c N c, w_c_w N c, cl_worn 34 hb, fun C J hs => ml_worn 32 hb.1 hs⟩
end P70
