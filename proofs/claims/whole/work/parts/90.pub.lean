/-! PUBLIC METHODS: start, atOnce -/
section P90
variable {I C J : pI} {L : pL} {N S : Nat}

def qSt (I : pI) (c : Nat) (t : Int32) : Int32 := h_laf (I 108 6) (I 108 3) (q_st I c) (k_puff (I 110 c)) (q_ri I c) (I 108 2) (m_ro (I 108 4) (I 112 c)) (I 108 5) t
def tF (I : pI) (c : Nat) (v : Nat) : Int32 := tq I (I 110 c) (I 111 c) (I 112 c) (I 113 c) (nI v) (I 108 6) 0
theorem sl_wi (v : vN I N S) {c : Nat} (h : c < 8) : wi (q_sl I (I 113 c) (I 112 c) 0) 0 20 := by
  have hS := v.2.1
  have hk := v.k h
  unfold q_sl
  rw [Int32.add_zero]
  split
  · exact ⟨by decide, by decide⟩
  · rename_i z
    have h8 : (I 113 c).toNatClampNeg < 8 := by
      rcases hk.2.2.2.1 with q | q
      · rw [q]; decide
      · have := cl_ti q.1 q.2 (by omega); omega
    obtain ⟨x0, x9⟩ := (v.2.2.2.2.2.2.2.2.2.2 _ h8).1
    obtain ⟨y0, y9⟩ := hk.2.2.1
    have e : (I 116 (I 113 c).toNatClampNeg - I 112 c).toInt = (I 116 (I 113 c).toNatClampNeg).toInt - (I 112 c).toInt := ti_sub (by omega) (by omega)
    unfold i_ab
    split
    · rename_i q
      have e2 : (-(I 116 (I 113 c).toNatClampNeg - I 112 c)).toInt = -((I 116 (I 113 c).toNatClampNeg).toInt - (I 112 c).toInt) := by
        rw [← Int32.zero_sub, ti_sub (by rw [ti_0, e]; omega) (by rw [ti_0, e]; omega), ti_0, e]; omega
      rw [ti_lt, e, ti_0] at q
      unfold wi
      rw [e2]; omega
    · rename_i q
      rw [ti_lt, e, ti_0] at q
      unfold wi
      rw [e]; omega
theorem qst_wi (v : vN I N S) {c : Nat} (h : c < 8) : wi (q_st I c) 0 20 := st_wi (isKd_wi (v.k h).1) (v.k h).2.1 (v.k h).2.2.1 (sl_wi v h)
theorem qSt_e (v : vN I N S) {c : Nat} (h : c < 8) {t : Int32} (ht : wi t 0 999) : qSt I c t = y_leg (tF I c) t 100 0 := h_laf_e (qst_wi v h) (m_ro_wi v.2.2.2.2.2.2.1 (v.k h).2.2.1) v.2.2.2.2.1 ht
theorem ct_leastAhead (d : Nat) (hb : bR I N S) (hs : sc I J) {c : Int32} (hc : 0 ≤ c ∧ c < nI N) (t : Int32) : cP (d + 5) 119 [.ref 0, .int c, .int t] (mm_sh, mm_R, J, L) (pX (some (.int (qSt I c.toNatClampNeg t))) L (sc I)) := by
  obtain ⟨t1, t2, t3⟩ := tk_c hb hs hc
  have h8 := (hb.cl hc).2.1
  have hk := hb.k h8
  have j4 : x_lafJ (x_take J 62 1 c) 63 4 = 0 := by unfold x_lafJ; rw [sr_same, up_s]
  have jj : ∀ j, j ≠ 4 → x_lafJ (x_take J 62 1 c) 63 j = x_take J 62 1 c 63 j := fun j hj => by unfold x_lafJ; rw [sr_same, up_o _ _ hj]
  have j62 : x_lafJ (x_take J 62 1 c) 62 = x_take J 62 1 c 62 := by unfold x_lafJ; rw [sr_other _ _ (by decide)]
  have jo : ∀ k, k ≠ 62 → k ≠ 63 → x_lafJ (x_take J 62 1 c) k = J k := fun k a b => by unfold x_lafJ; rw [sr_other _ _ b, x_take_o J c a b]
  obtain ⟨b2, b3, b4, b5, b6, b7, b8, b9, b10, b11⟩ := rb_q (X := x_lafJ (x_take J 62 1 c)) hb hs jo (by rw [jj 0 (by decide), t1 0 (by omega)]; exact hk.1) (by rw [jj 2 (by decide), t1 2 (by omega)]; exact hk.2.2.1) (by rw [jj 3 (by decide), t1 3 (by omega)]; exact hb.sk h8) (fun _ => by rw [j62]; exact t2)
  rw [j62, t2] at b6 b8
  rw [j62, t3] at b2
  rw [jj 0 (by decide), jj 1 (by decide), jj 2 (by decide), jj 3 (by decide), t1 0 (by omega), t1 1 (by omega), t1 2 (by omega), t1 3 (by omega)] at b6 b8
  rw [jj 0 (by decide), t1 0 (by omega)] at b7
  rw [jj 2 (by decide), t1 2 (by omega)] at b5
  rw [j4] at b9
  have b10' : r_b (x_lafJ (x_take J 62 1 c)) 62 1 10 = I 108 5 := congrArg (fun s : hS => s.2.1) b9
  obtain ⟨s1, s2⟩ := r_secs_h (t - m_ro (I 108 4) (I 112 c.toNatClampNeg)).toNatClampNeg (r_b (x_lafJ (x_take J 62 1 c)) 62 1) (by rw [b10']; exact hb.1.2.2.2.2.2.2.2.1) (by rw [b7]; exact puff_wi (isKd_wi hk.1)) (by rw [b2]; exact hb.rl)
  rw [b2, b4, b6, b7, b8, b9] at s1
  have e9 : x_lafs (x_take J 62 1 c) t 9 = h_at (I 108 6) (I 108 3) (q_st I c.toNatClampNeg) (k_puff (I 110 c.toNatClampNeg)) (q_ri I c.toNatClampNeg) (I 108 5) (t - m_ro (I 108 4) (I 112 c.toNatClampNeg)).toNatClampNeg := by
    unfold x_lafs x_lafb
    rw [b5]
    exact congrArg (fun s : hS => s.1) s1
  have e3 : x_lafs (x_take J 62 1 c) t 3 = I 108 2 := by
    unfold x_lafs x_lafb
    rw [b5, s2 3 (by omega), b3]
  refine cP.of_x (ok_X8_leastAhead d J L c t (hb.nOk hs hc)) ?_ ?_
  · unfold x_laf
    rw [e9, e3]
    unfold x_lafb
    rw [b5]
    rfl
  · unfold x_lafM
    split
    · exact hs.e62 fun k a b => x_take_o J c a b
    · split
      · exact hs.e62 fun k a b => by rw [sr_other _ _ a, jo k a b]
      · exact hs.e62 fun k a b => by rw [sr_other _ _ a, jo k a b]

set_option maxHeartbeats 400000 in
theorem lp_msta (d : Nat) (v : vN I N S) {c t : Int32} (hc : 0 ≤ c ∧ c < nI N) : ∀ (n i : Nat) (J : pI), i + n = 100 → mR I C J → gP mm_cs0 (d + 7) 9 false (some .int) cX9_startOf 2 [some (.ref 108), some (.int c), some (.int t), some (.int (nI i))] [] (mm_sh, mm_R, J, L) (pX (some (.int (y_leg (tF I c.toNatClampNeg) t n i))) L (mR I C)) := by
  intro n
  induction n with
  | zero =>
    intro i J hi hsJ
    obtain rfl : i = 100 := by omega
    have hc1 : (100 : Int32) ≤ nI 100 := by decide
    refine gp_iload_n dX9_startOf_2 rfl ?_
    refine gp_pu (st' := .int (100) :: _) dX9_startOf_3 rfl ?_
    refine gp_icc (t := 26) dX9_startOf_5 (by decide) c2_ge (fun h1 => ?_) (fun h1 => ?_)
    · have h1' := Int32.not_lt.mpr h1
      refine gp_pu (st' := .int (-1) :: _) dX9_startOf_26 rfl ?_
      refine gp_iret dX9_startOf_27 rfl ?_
      exact pX.mk rfl hsJ
    · exact absurd hc1 h1
  | succ n ih =>
    intro i J hi hsJ
    have hc1 : ¬ (100 : Int32) ≤ nI i := nI_ge (b := 100) (by omega) (by omega)
    refine gp_iload_n dX9_startOf_2 rfl ?_
    refine gp_pu (st' := .int (100) :: _) dX9_startOf_3 rfl ?_
    refine gp_icc (t := 26) dX9_startOf_5 (by decide) c2_ge (fun h1 => ?_) (fun h1 => ?_)
    · exact absurd h1 hc1
    · have h1' := Int32.not_le.mp h1
      refine gp_aload_n dX9_startOf_8 rfl ?_
      refine gp_iload_n dX9_startOf_9 rfl ?_
      refine gp_iload_n dX9_startOf_10 rfl ?_
      refine gp_callX (kind := 1) (args := [.ref _, .int _, .int _]) (rest := _) dX9_startOf_11 (Or.inr (Or.inl ⟨rfl, rfl⟩)) mk_9_324 (by decide) me_183 rfl rfl rfl rfl rfl (mm_rc_of (by first | rfl | assumption | (simp only [*]; done))) (mt_inFrom _ _ v hsJ hc (nI i)) ?_
      intro K1 hK1
      refine gp_iload_n dX9_startOf_14 rfl ?_
      refine gp_icc (t := 20) dX9_startOf_15 (by decide) c2_gt (fun h2 => ?_) (fun h2 => ?_)
      · have h2' := Int32.not_le.mpr h2
        refine gp_iinc (v := (1)) (ls' := [some (.ref _), some (.int _), some (.int _), some (.int _)]) dX9_startOf_20 rfl (by decide) rfl ?_
        refine gp_goto (t := 2) dX9_startOf_23 (by decide) ?_
        (rw [nI_1]
         have ih' := ih (i + 1) K1 (by omega) hK1
         rw [show y_leg (tF I c.toNatClampNeg) t (n + 1) i = y_leg (tF I c.toNatClampNeg) t n (i + 1) from if_neg (Int32.not_le.mpr h2)]
         exact ih')
      · have h2' := Int32.not_lt.mp h2
        refine gp_iload_n dX9_startOf_18 rfl ?_
        refine gp_iret dX9_startOf_19 rfl ?_
        exact pX.mk (congrArg some (congrArg Value.int (if_pos h2').symm)) hK1

set_option maxHeartbeats 400000 in
theorem ml_startOf (d : Nat) (v : vN I N S) (hs : mR I C J) {c t : Int32} (hc : 0 ≤ c ∧ c < nI N) (ht : wi t 0 999) : cP (d + 8) 197 [.ref 108, .int c, .int t] (mm_sh, mm_R, J, L) (pX (some (.int (qSt I c.toNatClampNeg t))) L (mR I C)) := by
  refine cP.of_gP (d := d + 7) me_197 ⟨Nat.le_of_ble_eq_true rfl, rfl⟩ ?_
  show gP mm_cs0 _ _ _ _ _ _ [some (.ref _), some (.int _), some (.int _), none] [] _ _
  refine gp_pu (st' := .int (0) :: _) dX9_startOf_0 rfl ?_
  refine gp_istore_n (ls' := [some (.ref _), some (.int _), some (.int _), some (.int _)]) dX9_startOf_1 rfl (Nat.le_of_ble_eq_true rfl) ?_
  (have h := lp_msta d (L := L) v (t := t) hc 100 0 J (by omega) hs
   rw [qSt_e v (v.cl hc).2.1 ht]
   exact h)

def w_sr (N : Nat) (c e : Int32) : Int32 := if ¬ (0 ≤ c ∧ c < nI N) then -1 else if ¬ (0 ≤ e ∧ e < nI N) then -1 else 0
theorem w_sr_w (N : Nat) (c e : Int32) : w_sr N c e = 0 ∨ isW (w_sr N c e) := by unfold w_sr; (repeat' split) <;> first | exact Or.inl rfl | (right; unfold isW; decide)

set_option maxHeartbeats 400000 in
theorem cl_start (d : Nat) (hb : bR I N S) {c e : Int32} : cP (d + 6) 84 [.ref 0, .int c, .int e] (mm_sh, mm_R, I, L) (pX (some (.int (vt (w_sr N c e) (qSt I c.toNatClampNeg (tC I e.toNatClampNeg))))) L (sc (rI I (w_sr N c e)))) := by
  have hs := sc.rf I
  have e11 : I 1 1 = nI N := hb.c11 hs
  have e13 : I 1 3 = nI S := hb.c13 hs
  refine cP.of_gP (d := d + 5) me_84 ⟨Nat.le_of_ble_eq_true rfl, rfl⟩ ?_
  show gP mm_cs0 _ _ _ _ _ _ [some (.ref _), some (.int _), some (.int _)] [] _ _
  refine gp_aload_n dX8_start_0 rfl ?_
  refine gp_gr dX8_start_1 mf_8_10 rfl (by first | rfl | assumption | (simp only [*]; done)) (by first | rfl | assumption | (simp only [*]; done)) ?_
  refine gp_iload_n dX8_start_4 rfl ?_
  refine gp_call (kind := 1) (args := [.ref _, .int _]) (rest := _) dX8_start_5 (Or.inr (Or.inl ⟨rfl, rfl⟩)) mk_8_126 (by decide) me_3 rfl rfl rfl rfl rfl (mm_rc_of (by first | rfl | assumption | (simp only [*]; done))) (ok_X1_hasChild _ _ _ _ rfl _) rfl ?_
  refine gp_ifc (t := 22) dX8_start_8 (by decide) c1_eq (fun h1 => ?_) (fun h1 => ?_)
  · (try simp only [bi_0, bi_1, Classical.not_not, e11, e13] at h1)
    refine gp_aload_n dX8_start_22 rfl ?_
    refine gp_pu (st' := .int (-11) :: _) dX8_start_23 rfl ?_
    refine gp_call (kind := 1) (args := [.ref _, .int _]) (rest := _) dX8_start_25 (Or.inr (Or.inl ⟨rfl, rfl⟩)) mk_8_79 (by decide) me_100 rfl rfl rfl rfl rfl (mm_rc_of (by first | rfl | assumption | (simp only [*]; done))) (ok_X8_refuse _ _ _ _) rfl ?_
    refine gp_iret dX8_start_28 rfl ?_
    first | (refine cNt (n := (-1)) ?zqa ?zqc ?zqd; (case zqd => decide); (case zqa => (first | ((simp [w_sr, *]; done)) | (exfalso; first | contradiction | (simp_all; done)))); (case zqc => (unfold isW; decide)))
  · (try simp only [bi_0, bi_1, Classical.not_not, e11, e13] at h1)
    refine gp_aload_n dX8_start_11 rfl ?_
    refine gp_gr dX8_start_12 mf_8_10 rfl (by first | rfl | assumption | (simp only [*]; done)) (by first | rfl | assumption | (simp only [*]; done)) ?_
    refine gp_iload_n dX8_start_15 rfl ?_
    refine gp_call (kind := 1) (args := [.ref _, .int _]) (rest := _) dX8_start_16 (Or.inr (Or.inl ⟨rfl, rfl⟩)) mk_8_126 (by decide) me_3 rfl rfl rfl rfl rfl (mm_rc_of (by first | rfl | assumption | (simp only [*]; done))) (ok_X1_hasChild _ _ _ _ rfl _) rfl ?_
    refine gp_ifc (t := 29) dX8_start_19 (by decide) c1_ne (fun h2 => ?_) (fun h2 => ?_)
    · (try simp only [bi_0, bi_1, Classical.not_not, e11, e13] at h2)
      refine gp_aload_n dX8_start_29 rfl ?_
      refine gp_iload_n dX8_start_30 rfl ?_
      refine gp_aload_n dX8_start_31 rfl ?_
      refine gp_iload_n dX8_start_32 rfl ?_
      refine gp_callX (kind := 1) (args := [.ref _, .int _]) (rest := _) dX8_start_33 (Or.inr (Or.inl ⟨rfl, rfl⟩)) mk_8_268 (by decide) me_109 rfl rfl rfl rfl rfl (mm_rc_of (by first | rfl | assumption | (simp only [*]; done))) (ct_timeOf _ hb hs (by assumption)) ?_
      intro K1 hK1
      refine gp_callX (kind := 1) (args := [.ref _, .int _, .int _]) (rest := _) dX8_start_36 (Or.inr (Or.inl ⟨rfl, rfl⟩)) mk_8_313 (by decide) me_119 rfl rfl rfl rfl rfl (mm_rc_of (by first | rfl | assumption | (simp only [*]; done))) (ct_leastAhead _ hb hK1 (by assumption) _) ?_
      intro K2 hK2
      refine gp_iret dX8_start_39 rfl ?_
      first | (refine cOt ?zqa ?zqb hK2; (case zqa => (first | ((simp [w_sr, *]; done)) | (exfalso; first | contradiction | (simp_all; done)))); (case zqb => (exact rfl)))
    · (try simp only [bi_0, bi_1, Classical.not_not, e11, e13] at h2)
      refine gp_aload_n dX8_start_22 rfl ?_
      refine gp_pu (st' := .int (-11) :: _) dX8_start_23 rfl ?_
      refine gp_call (kind := 1) (args := [.ref _, .int _]) (rest := _) dX8_start_25 (Or.inr (Or.inl ⟨rfl, rfl⟩)) mk_8_79 (by decide) me_100 rfl rfl rfl rfl rfl (mm_rc_of (by first | rfl | assumption | (simp only [*]; done))) (ok_X8_refuse _ _ _ _) rfl ?_
      refine gp_iret dX8_start_28 rfl ?_
      first | (refine cNt (n := (-1)) ?zqa ?zqc ?zqd; (case zqd => decide); (case zqa => (first | ((simp [w_sr, *]; done)) | (exfalso; first | contradiction | (simp_all; done)))); (case zqc => (unfold isW; decide)))

set_option maxHeartbeats 400000 in
theorem ml_start (d : Nat) (v : vN I N S) (hs : mR I C J) {c e : Int32} : cP (d + 9) 198 [.ref 108, .int c, .int e] (mm_sh, mm_R, J, L) (pX (some (.int (vt (w_sr N c e) (qSt I c.toNatClampNeg (tC I e.toNatClampNeg))))) L (mR (rM I (w_sr N c e)) C)) := by
  have m0 : J 108 0 = nI N := (hs.r (by decide)).trans v.2.2.1
  have m1 : J 108 1 = nI S := (hs.r (by decide)).trans v.2.2.2.1
  refine cP.of_gP (d := d + 8) me_198 ⟨Nat.le_of_ble_eq_true rfl, rfl⟩ ?_
  show gP mm_cs0 _ _ _ _ _ _ [some (.ref _), some (.int _), some (.int _)] [] _ _
  refine gp_aload_n dX9_start_0 rfl ?_
  refine gp_iload_n dX9_start_1 rfl ?_
  refine gp_call (kind := 1) (args := [.ref _, .int _]) (rest := _) dX9_start_2 (Or.inr (Or.inl ⟨rfl, rfl⟩)) mk_9_131 (by decide) me_130 rfl rfl rfl rfl rfl (mm_rc_of (by first | rfl | assumption | (simp only [*]; done))) (ok_X9_isChild _ _ _ _) rfl ?_
  refine gp_ifc (t := 29) dX9_start_5 (by decide) c1_eq (fun h1 => ?_) (fun h1 => ?_)
  · (try simp only [bi_0, bi_1, Classical.not_not, m0, m1] at h1)
    refine gp_aload_n dX9_start_29 rfl ?_
    refine gp_pu (st' := .int (-1) :: _) dX9_start_30 rfl ?_
    refine gp_call (kind := 1) (args := [.ref _, .int _]) (rest := _) dX9_start_31 (Or.inr (Or.inl ⟨rfl, rfl⟩)) mk_9_330 (by decide) me_128 rfl rfl rfl rfl rfl (mm_rc_of (by first | rfl | assumption | (simp only [*]; done))) (ok_X9_noTen _ _ _ _ (by decide)) rfl ?_
    refine gp_iret dX9_start_34 rfl ?_
    first | (refine mNt ?zqa ?zqc hs; (case zqa => (first | ((simp [w_sr, *]; done)) | (exfalso; first | contradiction | (simp_all; done)))); (case zqc => (unfold isW; decide)))
  · (try simp only [bi_0, bi_1, Classical.not_not, m0, m1] at h1)
    refine gp_aload_n dX9_start_8 rfl ?_
    refine gp_iload_n dX9_start_9 rfl ?_
    refine gp_call (kind := 1) (args := [.ref _, .int _]) (rest := _) dX9_start_10 (Or.inr (Or.inl ⟨rfl, rfl⟩)) mk_9_131 (by decide) me_130 rfl rfl rfl rfl rfl (mm_rc_of (by first | rfl | assumption | (simp only [*]; done))) (ok_X9_isChild _ _ _ _) rfl ?_
    refine gp_ifc (t := 29) dX9_start_13 (by decide) c1_eq (fun h2 => ?_) (fun h2 => ?_)
    · (try simp only [bi_0, bi_1, Classical.not_not, m0, m1] at h2)
      refine gp_aload_n dX9_start_29 rfl ?_
      refine gp_pu (st' := .int (-1) :: _) dX9_start_30 rfl ?_
      refine gp_call (kind := 1) (args := [.ref _, .int _]) (rest := _) dX9_start_31 (Or.inr (Or.inl ⟨rfl, rfl⟩)) mk_9_330 (by decide) me_128 rfl rfl rfl rfl rfl (mm_rc_of (by first | rfl | assumption | (simp only [*]; done))) (ok_X9_noTen _ _ _ _ (by decide)) rfl ?_
      refine gp_iret dX9_start_34 rfl ?_
      first | (refine mNt ?zqa ?zqc hs; (case zqa => (first | ((simp [w_sr, *]; done)) | (exfalso; first | contradiction | (simp_all; done)))); (case zqc => (unfold isW; decide)))
    · (try simp only [bi_0, bi_1, Classical.not_not, m0, m1] at h2)
      refine gp_aload_n dX9_start_16 rfl ?_
      refine gp_iload_n dX9_start_17 rfl ?_
      refine gp_aload_n dX9_start_18 rfl ?_
      refine gp_iload_n dX9_start_19 rfl ?_
      refine gp_callX (kind := 1) (args := [.ref _, .int _]) (rest := _) dX9_start_20 (Or.inr (Or.inl ⟨rfl, rfl⟩)) mk_9_293 (by decide) me_180 rfl rfl rfl rfl rfl (mm_rc_of (by first | rfl | assumption | (simp only [*]; done))) (mt_inOf _ _ v hs (by assumption)) ?_
      intro K1 hK1
      refine gp_callX (kind := 1) (args := [.ref _, .int _, .int _]) (rest := _) dX9_start_23 (Or.inr (Or.inl ⟨rfl, rfl⟩)) mk_9_327 (by decide) me_197 rfl rfl rfl rfl rfl (mm_rc_of (by first | rfl | assumption | (simp only [*]; done))) (ml_startOf _ v hK1 (by assumption) (tC_wi v (v.cl (c := e) (by assumption)).2.1)) ?_
      intro K2 hK2
      refine gp_goto (t := 34) dX9_start_26 (by decide) ?_
      refine gp_iret dX9_start_34 rfl ?_
      first | (refine mOt ?zqa ?zqb hK2; (case zqa => (first | ((simp [w_sr, *]; done)) | (exfalso; first | contradiction | (simp_all; done)))); (case zqb => (exact rfl)))

theorem eq_start (c e : Int32) : eqc 84 198 [.int c, .int e] := by
  refine eqc_q fun I L hR => ?_
  obtain ⟨N, S, hb, hS, hL, hK, hT, hW, hE⟩ := hR
  refine ⟨_, w_sr N c e, w_sr_w N c e, cl_start 34 hb, fun C J hs => ml_start 31 hb.1 hs⟩

def y_ao (f : Nat → Int32) : Nat → Nat → Int32 → Int32
  | 0, _, s => s
  | n + 1, c, s => if f c = -1 then -1 else y_ao f n (c + 1) (s + f c)
def q_ao (I : pI) (N : Nat) : Int32 := if N = 0 then 0 else y_ao (fun c => qSt I c (tC I (x_win N (tC I)))) N 0 0

set_option maxHeartbeats 400000 in
theorem lp_cao (d : Nat) (hb : bR I N S) (T : Int32) (hT : wi T 0 999) : ∀ (n i : Nat) (s : Int32) (v4 : Option Value) (J : pI), i + n = N → sc I J → gP mm_cs0 (d + 5) 8 false (some .int) cX8_atOnce 30 [some (.ref 0), some (.int T), some (.int s), some (.int (nI i)), v4] [] (mm_sh, mm_R, J, L) (pX (some (.int (y_ao (fun c => qSt I c T) n i s))) L (sc I)) := by
  intro n
  induction n with
  | zero =>
    intro i s v4 J hi hsJ
    obtain rfl : i = N := by omega
    have hc1 : nI i ≤ nI i := Int32.le_refl _
    refine gp_iload_n dX8_atOnce_30 rfl ?_
    refine gp_aload_n dX8_atOnce_31 rfl ?_
    refine gp_gr dX8_atOnce_32 mf_8_10 rfl (by first | rfl | assumption | (simp only [*]; done)) (by first | rfl | assumption | (simp only [*]; done)) ?_
    refine gp_giv dX8_atOnce_35 mf_8_154 (by decide) (by first | rfl | assumption | (simp only [*]; done)) (by first | exact hb.c11 hsJ | exact rfl) ?_
    refine gp_icc (t := 68) dX8_atOnce_38 (by decide) c2_ge (fun h1 => ?_) (fun h1 => ?_)
    · have h1' := Int32.not_lt.mpr h1
      refine gp_iload_n dX8_atOnce_68 rfl ?_
      refine gp_iret dX8_atOnce_69 rfl ?_
      exact pX.mk rfl hsJ
    · exact absurd hc1 h1
  | succ n ih =>
    intro i s v4 J hi hsJ
    have hN8 := hb.n.1
    have hc1 : ¬ nI N ≤ nI i := nI_ge (by omega) (by omega)
    refine gp_iload_n dX8_atOnce_30 rfl ?_
    refine gp_aload_n dX8_atOnce_31 rfl ?_
    refine gp_gr dX8_atOnce_32 mf_8_10 rfl (by first | rfl | assumption | (simp only [*]; done)) (by first | rfl | assumption | (simp only [*]; done)) ?_
    refine gp_giv dX8_atOnce_35 mf_8_154 (by decide) (by first | rfl | assumption | (simp only [*]; done)) (by first | exact hb.c11 hsJ | exact rfl) ?_
    refine gp_icc (t := 68) dX8_atOnce_38 (by decide) c2_ge (fun h1 => ?_) (fun h1 => ?_)
    · exact absurd h1 hc1
    · have h1' := Int32.not_le.mp h1
      refine gp_aload_n dX8_atOnce_41 rfl ?_
      refine gp_iload_n dX8_atOnce_42 rfl ?_
      refine gp_iload_n dX8_atOnce_43 rfl ?_
      refine gp_callX (kind := 1) (args := [.ref _, .int _, .int _]) (rest := _) dX8_atOnce_44 (Or.inr (Or.inl ⟨rfl, rfl⟩)) mk_8_313 (by decide) me_119 rfl rfl rfl rfl rfl (mm_rc_of (by first | rfl | assumption | (simp only [*]; done))) (ct_leastAhead _ hb hsJ (ch_n hb.1 (show i < N by omega)) _) ?_
      intro K1 hK1
      rw [nI_clamp (by omega)]
      refine gp_istore (ls' := [some (.ref _), some (.int _), some (.int _), some (.int _), some (.int _)]) dX8_atOnce_47 rfl (Nat.le_of_ble_eq_true rfl) ?_
      refine gp_iload dX8_atOnce_49 rfl ?_
      refine gp_pu (st' := .int (-1) :: _) dX8_atOnce_51 rfl ?_
      refine gp_icc (t := 57) dX8_atOnce_52 (by decide) c2_ne (fun h2 => ?_) (fun h2 => ?_)
      · refine gp_iload_n dX8_atOnce_57 rfl ?_
        refine gp_iload dX8_atOnce_58 rfl ?_
        refine gp_pu (st' := .int _ :: _) dX8_atOnce_60 rfl ?_
        refine gp_istore_n (ls' := [some (.ref _), some (.int _), some (.int _), some (.int _), some (.int _)]) dX8_atOnce_61 rfl (Nat.le_of_ble_eq_true rfl) ?_
        refine gp_iinc (v := (1)) (ls' := [some (.ref _), some (.int _), some (.int _), some (.int _), some (.int _)]) dX8_atOnce_62 rfl (by decide) rfl ?_
        refine gp_goto (t := 30) dX8_atOnce_65 (by decide) ?_
        (rw [nI_1]
         have ih' := ih (i + 1) (s + qSt I i T) (some (.int (qSt I i T))) K1 (by omega) hK1
         rw [show y_ao (fun c => qSt I c T) (n + 1) i s = y_ao (fun c => qSt I c T) n (i + 1) (s + qSt I i T) from if_neg h2]
         exact ih')
      · refine gp_pu (st' := .int (-1) :: _) dX8_atOnce_55 rfl ?_
        refine gp_iret dX8_atOnce_56 rfl ?_
        (refine pX.mk (congrArg some (congrArg Value.int ?zqa)) hK1; (case zqa => (exact (if_pos (Classical.not_not.mp h2)).symm)))

set_option maxHeartbeats 400000 in
theorem lp_mao (d : Nat) (v : vN I N S) (T : Int32) (hT : wi T 0 999) : ∀ (n i : Nat) (s : Int32) (v4 : Option Value) (J : pI), i + n = N → mR I C J → gP mm_cs0 (d + 8) 9 false (some .int) cX9_atOnce 22 [some (.ref 108), some (.int T), some (.int s), some (.int (nI i)), v4] [] (mm_sh, mm_R, J, L) (pX (some (.int (y_ao (fun c => qSt I c T) n i s))) L (mR I C)) := by
  intro n
  induction n with
  | zero =>
    intro i s v4 J hi hsJ
    obtain rfl : i = N := by omega
    have hc1 : nI i ≤ nI i := Int32.le_refl _
    refine gp_iload_n dX9_atOnce_22 rfl ?_
    refine gp_aload_n dX9_atOnce_23 rfl ?_
    refine gp_giv dX9_atOnce_24 mf_9_117 (by decide) (by first | rfl | assumption | (simp only [*]; done)) (by first | exact (hsJ.r (by decide)).trans v.2.2.1 | exact rfl) ?_
    refine gp_icc (t := 57) dX9_atOnce_27 (by decide) c2_ge (fun h1 => ?_) (fun h1 => ?_)
    · have h1' := Int32.not_lt.mpr h1
      refine gp_iload_n dX9_atOnce_57 rfl ?_
      refine gp_iret dX9_atOnce_58 rfl ?_
      exact pX.mk rfl hsJ
    · exact absurd hc1 h1
  | succ n ih =>
    intro i s v4 J hi hsJ
    have hN8 := v.1
    have hc1 : ¬ nI N ≤ nI i := nI_ge (by omega) (by omega)
    refine gp_iload_n dX9_atOnce_22 rfl ?_
    refine gp_aload_n dX9_atOnce_23 rfl ?_
    refine gp_giv dX9_atOnce_24 mf_9_117 (by decide) (by first | rfl | assumption | (simp only [*]; done)) (by first | exact (hsJ.r (by decide)).trans v.2.2.1 | exact rfl) ?_
    refine gp_icc (t := 57) dX9_atOnce_27 (by decide) c2_ge (fun h1 => ?_) (fun h1 => ?_)
    · exact absurd h1 hc1
    · have h1' := Int32.not_le.mp h1
      refine gp_aload_n dX9_atOnce_30 rfl ?_
      refine gp_iload_n dX9_atOnce_31 rfl ?_
      refine gp_iload_n dX9_atOnce_32 rfl ?_
      refine gp_callX (kind := 1) (args := [.ref _, .int _, .int _]) (rest := _) dX9_atOnce_33 (Or.inr (Or.inl ⟨rfl, rfl⟩)) mk_9_327 (by decide) me_197 rfl rfl rfl rfl rfl (mm_rc_of (by first | rfl | assumption | (simp only [*]; done))) (ml_startOf _ v hsJ (ch_n v (show i < N by omega)) hT) ?_
      intro K1 hK1
      rw [nI_clamp (by omega)]
      refine gp_istore (ls' := [some (.ref _), some (.int _), some (.int _), some (.int _), some (.int _)]) dX9_atOnce_36 rfl (Nat.le_of_ble_eq_true rfl) ?_
      refine gp_iload dX9_atOnce_38 rfl ?_
      refine gp_pu (st' := .int (-1) :: _) dX9_atOnce_40 rfl ?_
      refine gp_icc (t := 46) dX9_atOnce_41 (by decide) c2_ne (fun h2 => ?_) (fun h2 => ?_)
      · refine gp_iload_n dX9_atOnce_46 rfl ?_
        refine gp_iload dX9_atOnce_47 rfl ?_
        refine gp_pu (st' := .int _ :: _) dX9_atOnce_49 rfl ?_
        refine gp_istore_n (ls' := [some (.ref _), some (.int _), some (.int _), some (.int _), some (.int _)]) dX9_atOnce_50 rfl (Nat.le_of_ble_eq_true rfl) ?_
        refine gp_iinc (v := (1)) (ls' := [some (.ref _), some (.int _), some (.int _), some (.int _), some (.int _)]) dX9_atOnce_51 rfl (by decide) rfl ?_
        refine gp_goto (t := 22) dX9_atOnce_54 (by decide) ?_
        (rw [nI_1]
         have ih' := ih (i + 1) (s + qSt I i T) (some (.int (qSt I i T))) K1 (by omega) hK1
         rw [show y_ao (fun c => qSt I c T) (n + 1) i s = y_ao (fun c => qSt I c T) n (i + 1) (s + qSt I i T) from if_neg h2]
         exact ih')
      · refine gp_pu (st' := .int (-1) :: _) dX9_atOnce_44 rfl ?_
        refine gp_iret dX9_atOnce_45 rfl ?_
        (refine pX.mk (congrArg some (congrArg Value.int ?zqa)) hK1; (case zqa => (exact (if_pos (Classical.not_not.mp h2)).symm)))

set_option maxHeartbeats 400000 in
theorem cl_atOnce (d : Nat) (hb : bR I N S) : cP (d + 7) 85 [.ref 0] (mm_sh, mm_R, I, L) (pX (some (.int (q_ao I N))) L (sc I)) := by
  have hs := sc.rf I
  have e11 : I 1 1 = nI N := hb.c11 hs
  have e13 : I 1 3 = nI S := hb.c13 hs
  refine cP.of_gP (d := d + 6) me_85 ⟨Nat.le_of_ble_eq_true rfl, rfl⟩ ?_
  show gP mm_cs0 _ _ _ _ _ _ [some (.ref _), none, none, none, none] [] _ _
  refine gp_aload_n dX8_atOnce_0 rfl ?_
  refine gp_gr dX8_atOnce_1 mf_8_10 rfl (by first | rfl | assumption | (simp only [*]; done)) (by first | rfl | assumption | (simp only [*]; done)) ?_
  refine gp_giv dX8_atOnce_4 mf_8_154 (by decide) (by first | rfl | assumption | (simp only [*]; done)) (by first | exact e11 | exact zqt | exact rfl) ?_
  refine gp_ifc (t := 12) dX8_atOnce_7 (by decide) c1_ne (fun h1 => ?_) (fun h1 => ?_)
  · (try simp only [nI_0f hb.n.1, Classical.not_not] at h1)
    have zqw := x_win_lt N (tC I) (by omega)
    have zqi : mm_in (nI (x_win N (tC I))) 8 = true := hb.1.in8 (ch_n hb.1 zqw)
    refine gp_aload_n dX8_atOnce_12 rfl ?_
    refine gp_callX (kind := 1) (args := [.ref _]) (rest := _) dX8_atOnce_13 (Or.inr (Or.inl ⟨rfl, rfl⟩)) mk_8_271 (by decide) me_114 rfl rfl rfl rfl rfl (mm_rc_of (by first | rfl | assumption | (simp only [*]; done))) (ct_timeAll _ hb) ?_
    intro K1 hK1
    refine gp_aload_n dX8_atOnce_16 rfl ?_
    refine gp_gr dX8_atOnce_17 mf_8_60 rfl (by first | rfl | assumption | (simp only [*]; done)) (by first | rfl | assumption | (simp only [*]; done)) ?_
    refine gp_aload_n dX8_atOnce_20 rfl ?_
    refine gp_callX (kind := 1) (args := [.ref _]) (rest := _) dX8_atOnce_21 (Or.inr (Or.inl ⟨rfl, rfl⟩)) mk_8_274 (by decide) me_115 rfl rfl rfl rfl rfl (mm_rc_of (by first | rfl | assumption | (simp only [*]; done))) (ct_winner _ hb hK1.1 hK1.2) ?_
    intro K2 hK2
    rw [hK2]
    have zqt : K1 73 (nI (x_win N (tC I))).toNatClampNeg = tC I (x_win N (tC I)) := by rw [nI_clamp (by have := hb.n.1; omega)]; exact hK1.2 _ zqw
    refine gp_ialv dX8_atOnce_24 rfl (by first | rfl | assumption | (simp only [*]; done)) (by first | rfl | assumption | (simp only [*]; done)) (by first | exact e11 | exact zqt | exact rfl) ?_
    refine gp_istore_n (ls' := [some (.ref _), some (.int _), none, none, none]) dX8_atOnce_25 rfl (Nat.le_of_ble_eq_true rfl) ?_
    refine gp_pu (st' := .int (0) :: _) dX8_atOnce_26 rfl ?_
    refine gp_istore_n (ls' := [some (.ref _), some (.int _), some (.int _), none, none]) dX8_atOnce_27 rfl (Nat.le_of_ble_eq_true rfl) ?_
    refine gp_pu (st' := .int (0) :: _) dX8_atOnce_28 rfl ?_
    refine gp_istore_n (ls' := [some (.ref _), some (.int _), some (.int _), some (.int _), none]) dX8_atOnce_29 rfl (Nat.le_of_ble_eq_true rfl) ?_
    (have h := lp_cao (d + 1) (L := L) hb (tC I (x_win N (tC I))) (tC_wi hb.1 (by have := hb.n.1; omega)) N 0 0 none K1 (by omega) hK1.1
     rw [show q_ao I N = y_ao (fun c => qSt I c (tC I (x_win N (tC I)))) N 0 0 from if_neg h1]
     exact h)
  · (try simp only [nI_0f hb.n.1, Classical.not_not] at h1)
    refine gp_pu (st' := .int (0) :: _) dX8_atOnce_10 rfl ?_
    refine gp_iret dX8_atOnce_11 rfl ?_
    (refine pX.mk (congrArg some (congrArg Value.int ?zqa)) (sc.rf _); (case zqa => (exact (if_pos h1).symm)))

set_option maxHeartbeats 400000 in
theorem ml_atOnce (d : Nat) (v : vN I N S) (hs : mR I C J) : cP (d + 9) 199 [.ref 108] (mm_sh, mm_R, J, L) (pX (some (.int (q_ao I N))) L (mR I C)) := by
  have m0 : J 108 0 = nI N := (hs.r (by decide)).trans v.2.2.1
  have m1 : J 108 1 = nI S := (hs.r (by decide)).trans v.2.2.2.1
  refine cP.of_gP (d := d + 8) me_199 ⟨Nat.le_of_ble_eq_true rfl, rfl⟩ ?_
  show gP mm_cs0 _ _ _ _ _ _ [some (.ref _), none, none, none, none] [] _ _
  refine gp_aload_n dX9_atOnce_0 rfl ?_
  refine gp_giv dX9_atOnce_1 mf_9_117 (by decide) (by first | rfl | assumption | (simp only [*]; done)) (by first | exact m0 | exact rfl) ?_
  refine gp_ifc (t := 9) dX9_atOnce_4 (by decide) c1_ne (fun h1 => ?_) (fun h1 => ?_)
  · (try simp only [nI_0f v.1, Classical.not_not] at h1)
    refine gp_aload_n dX9_atOnce_9 rfl ?_
    refine gp_aload_n dX9_atOnce_10 rfl ?_
    refine gp_callX (kind := 1) (args := [.ref _]) (rest := _) dX9_atOnce_11 (Or.inr (Or.inl ⟨rfl, rfl⟩)) mk_9_296 (by decide) me_187 rfl rfl rfl rfl rfl (mm_rc_of (by first | rfl | assumption | (simp only [*]; done))) (ml_first _ v hs (by omega)) ?_
    intro K1 hK1
    refine gp_callX (kind := 1) (args := [.ref _, .int _]) (rest := _) dX9_atOnce_14 (Or.inr (Or.inl ⟨rfl, rfl⟩)) mk_9_293 (by decide) me_180 rfl rfl rfl rfl rfl (mm_rc_of (by first | rfl | assumption | (simp only [*]; done))) (mn_inOf _ v hK1 (x_win_lt N _ (by omega))) ?_
    intro K2 hK2
    refine gp_istore_n (ls' := [some (.ref _), some (.int _), none, none, none]) dX9_atOnce_17 rfl (Nat.le_of_ble_eq_true rfl) ?_
    refine gp_pu (st' := .int (0) :: _) dX9_atOnce_18 rfl ?_
    refine gp_istore_n (ls' := [some (.ref _), some (.int _), some (.int _), none, none]) dX9_atOnce_19 rfl (Nat.le_of_ble_eq_true rfl) ?_
    refine gp_pu (st' := .int (0) :: _) dX9_atOnce_20 rfl ?_
    refine gp_istore_n (ls' := [some (.ref _), some (.int _), some (.int _), some (.int _), none]) dX9_atOnce_21 rfl (Nat.le_of_ble_eq_true rfl) ?_
    (have h := lp_mao d (L := L) v (tC I (x_win N (tC I))) (tC_wi v (by have := v.1; have := x_win_lt N (tC I) (by omega); omega)) N 0 0 none K2 (by omega) hK2
     rw [show q_ao I N = y_ao (fun c => qSt I c (tC I (x_win N (tC I)))) N 0 0 from if_neg h1]
     exact h)
  · (try simp only [nI_0f v.1, Classical.not_not] at h1)
    refine gp_pu (st' := .int (0) :: _) dX9_atOnce_7 rfl ?_
    refine gp_iret dX9_atOnce_8 rfl ?_
    (refine pX.mk (congrArg some (congrArg Value.int ?zqa)) hs; (case zqa => (exact (if_pos h1).symm)))

theorem eq_atOnce : eqc 85 199 [] := by
  refine eqc_q0 fun I L hR => ?_
  obtain ⟨N, S, hb, hS, hL, hK, hT, hW, hE⟩ := hR
  exact ⟨_, cl_atOnce 33 hb, fun C J hs => ml_atOnce 31 hb.1 hs⟩
end P90
