/-! PUBLIC METHODS: comesIn, two, fault, sackOf, best -/
section P60
variable {I C J : pI} {L : pL} {N S : Nat}

def w_c (N : Nat) (c : Int32) : Int32 := if 0 ≤ c ∧ c < nI N then 0 else -1
theorem w_c_w (N : Nat) (c : Int32) : w_c N c = 0 ∨ isW (w_c N c) := by unfold w_c isW; split <;> decide

set_option maxHeartbeats 400000 in
theorem cl_comesIn (d : Nat) (hb : bR I N S) {c : Int32} : cP (d + 7) 78 [.ref 0, .int c] (mm_sh, mm_R, I, L) (pX (some (.int (vq (w_c N c) (tC I c.toNatClampNeg)))) L (sc (rI I (w_c N c)))) := by
  have hs := sc.rf I
  have e11 : I 1 1 = nI N := hb.c11 hs
  have e13 : I 1 3 = nI S := hb.c13 hs
  refine cP.of_gP (d := d + 6) me_78 ⟨Nat.le_of_ble_eq_true rfl, rfl⟩ ?_
  show gP mm_cs0 _ _ _ _ _ _ [some (.ref _), some (.int _)] [] _ _
  refine gp_aload_n dX8_comesIn_0 rfl ?_
  refine gp_gr dX8_comesIn_1 mf_8_10 rfl (by first | rfl | assumption | (simp only [*]; done)) (by first | rfl | assumption | (simp only [*]; done)) ?_
  refine gp_iload_n dX8_comesIn_4 rfl ?_
  refine gp_call (kind := 1) (args := [.ref _, .int _]) (rest := _) dX8_comesIn_5 (Or.inr (Or.inl ⟨rfl, rfl⟩)) mk_8_126 (by decide) me_3 rfl rfl rfl rfl rfl (mm_rc_of (by first | rfl | assumption | (simp only [*]; done))) (ok_X1_hasChild _ _ _ _ rfl _) rfl ?_
  refine gp_ifc (t := 19) dX8_comesIn_8 (by decide) c1_eq (fun h1 => ?_) (fun h1 => ?_)
  · (try simp only [bi_0, bi_1, Classical.not_not, e11, e13] at h1)
    refine gp_aload_n dX8_comesIn_19 rfl ?_
    refine gp_pu (st' := .int (-1) :: _) dX8_comesIn_20 rfl ?_
    refine gp_call (kind := 1) (args := [.ref _, .int _]) (rest := _) dX8_comesIn_21 (Or.inr (Or.inl ⟨rfl, rfl⟩)) mk_8_79 (by decide) me_100 rfl rfl rfl rfl rfl (mm_rc_of (by first | rfl | assumption | (simp only [*]; done))) (ok_X8_refuse _ _ _ _) rfl ?_
    refine gp_iret dX8_comesIn_24 rfl ?_
    (refine cNo ?zqa ?zqc; (case zqa => (first | ((simp [w_c, *]; done)) | (exfalso; contradiction))); (case zqc => (unfold isW; decide)))
  · (try simp only [bi_0, bi_1, Classical.not_not, e11, e13] at h1)
    refine gp_aload_n dX8_comesIn_11 rfl ?_
    refine gp_iload_n dX8_comesIn_12 rfl ?_
    refine gp_call (kind := 1) (args := [.ref _, .int _]) (rest := _) dX8_comesIn_13 (Or.inr (Or.inl ⟨rfl, rfl⟩)) mk_8_268 (by decide) me_109 rfl rfl rfl rfl rfl (mm_rc_of (by first | rfl | assumption | (simp only [*]; done))) (ok_X8_timeOf _ _ _ _ (hb.nOk hs (by assumption))) rfl ?_
    refine gp_goto (t := 24) dX8_comesIn_16 (by decide) ?_
    refine gp_iret dX8_comesIn_24 rfl ?_
    first | (refine cOk ?zqa ?zqb (hs.take c); (case zqa => (first | ((simp [w_c, *]; done)) | (exfalso; contradiction))); (case zqb => (exact (tim_of hb hs (by assumption)).symm)))

set_option maxHeartbeats 400000 in
theorem ml_comesIn (d : Nat) (v : vN I N S) (hs : mR I C J) {c : Int32} : cP (d + 8) 186 [.ref 108, .int c] (mm_sh, mm_R, J, L) (pX (some (.int (vq (w_c N c) (tC I c.toNatClampNeg)))) L (mR (rM I (w_c N c)) C)) := by
  have m0 : J 108 0 = nI N := (hs.r (by decide)).trans v.2.2.1
  have m1 : J 108 1 = nI S := (hs.r (by decide)).trans v.2.2.2.1
  refine cP.of_gP (d := d + 7) me_186 ⟨Nat.le_of_ble_eq_true rfl, rfl⟩ ?_
  show gP mm_cs0 _ _ _ _ _ _ [some (.ref _), some (.int _)] [] _ _
  refine gp_aload_n dX9_comesIn_0 rfl ?_
  refine gp_iload_n dX9_comesIn_1 rfl ?_
  refine gp_call (kind := 1) (args := [.ref _, .int _]) (rest := _) dX9_comesIn_2 (Or.inr (Or.inl ⟨rfl, rfl⟩)) mk_9_131 (by decide) me_130 rfl rfl rfl rfl rfl (mm_rc_of (by first | rfl | assumption | (simp only [*]; done))) (ok_X9_isChild _ _ _ _) rfl ?_
  refine gp_ifc (t := 16) dX9_comesIn_5 (by decide) c1_eq (fun h1 => ?_) (fun h1 => ?_)
  · (try simp only [bi_0, bi_1, Classical.not_not, m0, m1] at h1)
    refine gp_aload_n dX9_comesIn_16 rfl ?_
    refine gp_pu (st' := .int (-1) :: _) dX9_comesIn_17 rfl ?_
    refine gp_call (kind := 1) (args := [.ref _, .int _]) (rest := _) dX9_comesIn_18 (Or.inr (Or.inl ⟨rfl, rfl⟩)) mk_9_127 (by decide) me_127 rfl rfl rfl rfl rfl (mm_rc_of (by first | rfl | assumption | (simp only [*]; done))) (ok_X9_no _ _ _ _ (by decide)) rfl ?_
    refine gp_iret dX9_comesIn_21 rfl ?_
    first | (refine mNo ?zqa ?zqc hs; (case zqa => (first | ((simp [w_c, *]; done)) | (exfalso; contradiction))); (case zqc => (unfold isW; decide)))
  · (try simp only [bi_0, bi_1, Classical.not_not, m0, m1] at h1)
    refine gp_aload_n dX9_comesIn_8 rfl ?_
    refine gp_iload_n dX9_comesIn_9 rfl ?_
    refine gp_callX (kind := 1) (args := [.ref _, .int _]) (rest := _) dX9_comesIn_10 (Or.inr (Or.inl ⟨rfl, rfl⟩)) mk_9_293 (by decide) me_180 rfl rfl rfl rfl rfl (mm_rc_of (by first | rfl | assumption | (simp only [*]; done))) (mt_inOf _ _ v hs (by assumption)) ?_
    intro K1 hK1
    refine gp_goto (t := 21) dX9_comesIn_13 (by decide) ?_
    refine gp_iret dX9_comesIn_21 rfl ?_
    first | (refine mOk ?zqa ?zqb hK1; (case zqa => (first | ((simp [w_c, *]; done)) | (exfalso; contradiction))); (case zqb => (exact rfl)))

theorem eq_comesIn (c : Int32) : eqc 78 186 [.int c] := by
  refine eqc_q fun I L hR => ?_
  obtain ⟨N, S, hb, hS, hL, hK, hT, hW, hE⟩ := hR
  refine ⟨_, w_c N c, w_c_w N c, cl_comesIn 33 hb, fun C J hs => ml_comesIn 32 hb.1 hs⟩

def w_two (N S : Nat) (c e k : Int32) : Int32 := if ¬ (0 ≤ c ∧ c < nI N) then -1 else if ¬ (0 ≤ e ∧ e < nI N) then -1 else if ¬ (0 ≤ k ∧ k < nI S) then -1 else if c = e then -6 else 0
theorem w_two_w (N S : Nat) (c e k : Int32) : w_two N S c e k = 0 ∨ isW (w_two N S c e k) := by unfold w_two; (repeat' split) <;> first | exact Or.inl rfl | (right; unfold isW; decide)
def q_two (I : pI) (c e k : Int32) : Int32 := tq I (I 110 c.toNatClampNeg) (I 111 c.toNatClampNeg) (i_min (I 112 c.toNatClampNeg) (I 112 e.toNatClampNeg)) k (I 114 c.toNatClampNeg) (I 108 6) (i_ab (I 112 c.toNatClampNeg - I 112 e.toNatClampNeg))

set_option maxHeartbeats 400000 in
theorem cl_two (d : Nat) (hb : bR I N S) {c e k : Int32} : cP (d + 7) 82 [.ref 0, .int c, .int e, .int k] (mm_sh, mm_R, I, L) (pX (some (.int (vq (w_two N S c e k) (q_two I c e k)))) L (sc (rI I (w_two N S c e k)))) := by
  have hs := sc.rf I
  have e11 : I 1 1 = nI N := hb.c11 hs
  have e13 : I 1 3 = nI S := hb.c13 hs
  refine cP.of_gP (d := d + 6) me_82 ⟨Nat.le_of_ble_eq_true rfl, rfl⟩ ?_
  show gP mm_cs0 _ _ _ _ _ _ [some (.ref _), some (.int _), some (.int _), some (.int _)] [] _ _
  refine gp_aload_n dX8_two_0 rfl ?_
  refine gp_gr dX8_two_1 mf_8_10 rfl (by first | rfl | assumption | (simp only [*]; done)) (by first | rfl | assumption | (simp only [*]; done)) ?_
  refine gp_iload_n dX8_two_4 rfl ?_
  refine gp_call (kind := 1) (args := [.ref _, .int _]) (rest := _) dX8_two_5 (Or.inr (Or.inl ⟨rfl, rfl⟩)) mk_8_126 (by decide) me_3 rfl rfl rfl rfl rfl (mm_rc_of (by first | rfl | assumption | (simp only [*]; done))) (ok_X1_hasChild _ _ _ _ rfl _) rfl ?_
  refine gp_ifc (t := 33) dX8_two_8 (by decide) c1_eq (fun h1 => ?_) (fun h1 => ?_)
  · (try simp only [bi_0, bi_1, Classical.not_not, e11, e13] at h1)
    refine gp_aload_n dX8_two_33 rfl ?_
    refine gp_pu (st' := .int (-1) :: _) dX8_two_34 rfl ?_
    refine gp_call (kind := 1) (args := [.ref _, .int _]) (rest := _) dX8_two_35 (Or.inr (Or.inl ⟨rfl, rfl⟩)) mk_8_79 (by decide) me_100 rfl rfl rfl rfl rfl (mm_rc_of (by first | rfl | assumption | (simp only [*]; done))) (ok_X8_refuse _ _ _ _) rfl ?_
    refine gp_iret dX8_two_38 rfl ?_
    (refine cNo ?zqa ?zqc; (case zqa => (first | ((simp [w_two, *]; done)) | (exfalso; contradiction))); (case zqc => (unfold isW; decide)))
  · (try simp only [bi_0, bi_1, Classical.not_not, e11, e13] at h1)
    refine gp_aload_n dX8_two_11 rfl ?_
    refine gp_gr dX8_two_12 mf_8_10 rfl (by first | rfl | assumption | (simp only [*]; done)) (by first | rfl | assumption | (simp only [*]; done)) ?_
    refine gp_iload_n dX8_two_15 rfl ?_
    refine gp_call (kind := 1) (args := [.ref _, .int _]) (rest := _) dX8_two_16 (Or.inr (Or.inl ⟨rfl, rfl⟩)) mk_8_126 (by decide) me_3 rfl rfl rfl rfl rfl (mm_rc_of (by first | rfl | assumption | (simp only [*]; done))) (ok_X1_hasChild _ _ _ _ rfl _) rfl ?_
    refine gp_ifc (t := 33) dX8_two_19 (by decide) c1_eq (fun h2 => ?_) (fun h2 => ?_)
    · (try simp only [bi_0, bi_1, Classical.not_not, e11, e13] at h2)
      refine gp_aload_n dX8_two_33 rfl ?_
      refine gp_pu (st' := .int (-1) :: _) dX8_two_34 rfl ?_
      refine gp_call (kind := 1) (args := [.ref _, .int _]) (rest := _) dX8_two_35 (Or.inr (Or.inl ⟨rfl, rfl⟩)) mk_8_79 (by decide) me_100 rfl rfl rfl rfl rfl (mm_rc_of (by first | rfl | assumption | (simp only [*]; done))) (ok_X8_refuse _ _ _ _) rfl ?_
      refine gp_iret dX8_two_38 rfl ?_
      (refine cNo ?zqa ?zqc; (case zqa => (first | ((simp [w_two, *]; done)) | (exfalso; contradiction))); (case zqc => (unfold isW; decide)))
    · (try simp only [bi_0, bi_1, Classical.not_not, e11, e13] at h2)
      refine gp_aload_n dX8_two_22 rfl ?_
      refine gp_gr dX8_two_23 mf_8_10 rfl (by first | rfl | assumption | (simp only [*]; done)) (by first | rfl | assumption | (simp only [*]; done)) ?_
      refine gp_iload_n dX8_two_26 rfl ?_
      refine gp_call (kind := 1) (args := [.ref _, .int _]) (rest := _) dX8_two_27 (Or.inr (Or.inl ⟨rfl, rfl⟩)) mk_8_203 (by decide) me_4 rfl rfl rfl rfl rfl (mm_rc_of (by first | rfl | assumption | (simp only [*]; done))) (ok_X1_hasSack _ _ _ _ rfl _) rfl ?_
      refine gp_ifc (t := 39) dX8_two_30 (by decide) c1_ne (fun h3 => ?_) (fun h3 => ?_)
      · (try simp only [bi_0, bi_1, Classical.not_not, e11, e13] at h3)
        refine gp_iload_n dX8_two_39 rfl ?_
        refine gp_iload_n dX8_two_40 rfl ?_
        refine gp_icc (t := 53) dX8_two_41 (by decide) c2_ne (fun h4 => ?_) (fun h4 => ?_)
        · (try simp only [bi_0, bi_1, Classical.not_not, e11, e13] at h4)
          refine gp_aload_n dX8_two_53 rfl ?_
          refine gp_iload_n dX8_two_54 rfl ?_
          refine gp_iload_n dX8_two_55 rfl ?_
          refine gp_iload_n dX8_two_56 rfl ?_
          refine gp_call (kind := 1) (args := [.ref _, .int _, .int _, .int _]) (rest := _) dX8_two_57 (Or.inr (Or.inl ⟨rfl, rfl⟩)) mk_8_310 (by decide) me_113 rfl rfl rfl rfl rfl (mm_rc_of (by first | rfl | assumption | (simp only [*]; done))) (ok_X8_timeOfTwo _ _ _ _ _ _ (hb.nOk hs (by assumption)) (by rw [e11]; assumption)) rfl ?_
          refine gp_iret dX8_two_60 rfl ?_
          first | (refine cOk ?zqa ?zqb (hs.two c e k); (case zqa => (first | ((simp [w_two, *]; done)) | (exfalso; contradiction))); (case zqb => (exact (tim_two hb hs (by assumption) (by assumption) (by assumption)).symm)))
        · (try simp only [bi_0, bi_1, Classical.not_not, e11, e13] at h4)
          refine gp_aload_n dX8_two_44 rfl ?_
          refine gp_pu (st' := .int (-6) :: _) dX8_two_45 rfl ?_
          refine gp_call (kind := 1) (args := [.ref _, .int _]) (rest := _) dX8_two_47 (Or.inr (Or.inl ⟨rfl, rfl⟩)) mk_8_79 (by decide) me_100 rfl rfl rfl rfl rfl (mm_rc_of (by first | rfl | assumption | (simp only [*]; done))) (ok_X8_refuse _ _ _ _) rfl ?_
          refine gp_goto (t := 60) dX8_two_50 (by decide) ?_
          refine gp_iret dX8_two_60 rfl ?_
          (refine cNo ?zqa ?zqc; (case zqa => (first | ((simp [w_two, *]; done)) | (exfalso; contradiction))); (case zqc => (unfold isW; decide)))
      · (try simp only [bi_0, bi_1, Classical.not_not, e11, e13] at h3)
        refine gp_aload_n dX8_two_33 rfl ?_
        refine gp_pu (st' := .int (-1) :: _) dX8_two_34 rfl ?_
        refine gp_call (kind := 1) (args := [.ref _, .int _]) (rest := _) dX8_two_35 (Or.inr (Or.inl ⟨rfl, rfl⟩)) mk_8_79 (by decide) me_100 rfl rfl rfl rfl rfl (mm_rc_of (by first | rfl | assumption | (simp only [*]; done))) (ok_X8_refuse _ _ _ _) rfl ?_
        refine gp_iret dX8_two_38 rfl ?_
        (refine cNo ?zqa ?zqc; (case zqa => (first | ((simp [w_two, *]; done)) | (exfalso; contradiction))); (case zqc => (unfold isW; decide)))

set_option maxHeartbeats 400000 in
theorem ml_two (d : Nat) (v : vN I N S) (hs : mR I C J) {c e k : Int32} : cP (d + 9) 195 [.ref 108, .int c, .int e, .int k] (mm_sh, mm_R, J, L) (pX (some (.int (vq (w_two N S c e k) (q_two I c e k)))) L (mR (rM I (w_two N S c e k)) C)) := by
  have m0 : J 108 0 = nI N := (hs.r (by decide)).trans v.2.2.1
  have m1 : J 108 1 = nI S := (hs.r (by decide)).trans v.2.2.2.1
  refine cP.of_gP (d := d + 8) me_195 ⟨Nat.le_of_ble_eq_true rfl, rfl⟩ ?_
  show gP mm_cs0 _ _ _ _ _ _ [some (.ref _), some (.int _), some (.int _), some (.int _)] [] _ _
  refine gp_aload_n dX9_two_0 rfl ?_
  refine gp_iload_n dX9_two_1 rfl ?_
  refine gp_call (kind := 1) (args := [.ref _, .int _]) (rest := _) dX9_two_2 (Or.inr (Or.inl ⟨rfl, rfl⟩)) mk_9_131 (by decide) me_130 rfl rfl rfl rfl rfl (mm_rc_of (by first | rfl | assumption | (simp only [*]; done))) (ok_X9_isChild _ _ _ _) rfl ?_
  refine gp_ifc (t := 24) dX9_two_5 (by decide) c1_eq (fun h1 => ?_) (fun h1 => ?_)
  · (try simp only [bi_0, bi_1, Classical.not_not, m0, m1] at h1)
    refine gp_aload_n dX9_two_24 rfl ?_
    refine gp_pu (st' := .int (-1) :: _) dX9_two_25 rfl ?_
    refine gp_call (kind := 1) (args := [.ref _, .int _]) (rest := _) dX9_two_26 (Or.inr (Or.inl ⟨rfl, rfl⟩)) mk_9_127 (by decide) me_127 rfl rfl rfl rfl rfl (mm_rc_of (by first | rfl | assumption | (simp only [*]; done))) (ok_X9_no _ _ _ _ (by decide)) rfl ?_
    refine gp_iret dX9_two_29 rfl ?_
    first | (refine mNo ?zqa ?zqc hs; (case zqa => (first | ((simp [w_two, *]; done)) | (exfalso; contradiction))); (case zqc => (unfold isW; decide)))
  · (try simp only [bi_0, bi_1, Classical.not_not, m0, m1] at h1)
    refine gp_aload_n dX9_two_8 rfl ?_
    refine gp_iload_n dX9_two_9 rfl ?_
    refine gp_call (kind := 1) (args := [.ref _, .int _]) (rest := _) dX9_two_10 (Or.inr (Or.inl ⟨rfl, rfl⟩)) mk_9_131 (by decide) me_130 rfl rfl rfl rfl rfl (mm_rc_of (by first | rfl | assumption | (simp only [*]; done))) (ok_X9_isChild _ _ _ _) rfl ?_
    refine gp_ifc (t := 24) dX9_two_13 (by decide) c1_eq (fun h2 => ?_) (fun h2 => ?_)
    · (try simp only [bi_0, bi_1, Classical.not_not, m0, m1] at h2)
      refine gp_aload_n dX9_two_24 rfl ?_
      refine gp_pu (st' := .int (-1) :: _) dX9_two_25 rfl ?_
      refine gp_call (kind := 1) (args := [.ref _, .int _]) (rest := _) dX9_two_26 (Or.inr (Or.inl ⟨rfl, rfl⟩)) mk_9_127 (by decide) me_127 rfl rfl rfl rfl rfl (mm_rc_of (by first | rfl | assumption | (simp only [*]; done))) (ok_X9_no _ _ _ _ (by decide)) rfl ?_
      refine gp_iret dX9_two_29 rfl ?_
      first | (refine mNo ?zqa ?zqc hs; (case zqa => (first | ((simp [w_two, *]; done)) | (exfalso; contradiction))); (case zqc => (unfold isW; decide)))
    · (try simp only [bi_0, bi_1, Classical.not_not, m0, m1] at h2)
      refine gp_aload_n dX9_two_16 rfl ?_
      refine gp_iload_n dX9_two_17 rfl ?_
      refine gp_call (kind := 1) (args := [.ref _, .int _]) (rest := _) dX9_two_18 (Or.inr (Or.inl ⟨rfl, rfl⟩)) mk_9_156 (by decide) me_131 rfl rfl rfl rfl rfl (mm_rc_of (by first | rfl | assumption | (simp only [*]; done))) (ok_X9_isSack _ _ _ _) rfl ?_
      refine gp_ifc (t := 30) dX9_two_21 (by decide) c1_ne (fun h3 => ?_) (fun h3 => ?_)
      · (try simp only [bi_0, bi_1, Classical.not_not, m0, m1] at h3)
        refine gp_iload_n dX9_two_30 rfl ?_
        refine gp_iload_n dX9_two_31 rfl ?_
        refine gp_icc (t := 44) dX9_two_32 (by decide) c2_ne (fun h4 => ?_) (fun h4 => ?_)
        · (try simp only [bi_0, bi_1, Classical.not_not, m0, m1] at h4)
          refine gp_aload_n dX9_two_44 rfl ?_
          refine gp_iload_n dX9_two_45 rfl ?_
          refine gp_iload_n dX9_two_46 rfl ?_
          refine gp_iload_n dX9_two_47 rfl ?_
          refine gp_callX (kind := 1) (args := [.ref _, .int _, .int _, .int _]) (rest := _) dX9_two_48 (Or.inr (Or.inl ⟨rfl, rfl⟩)) mk_9_321 (by decide) me_194 rfl rfl rfl rfl rfl (mm_rc_of (by first | rfl | assumption | (simp only [*]; done))) (mt_twoIn _ _ v hs (by assumption) (by assumption) (by assumption)) ?_
          intro K1 hK1
          refine gp_iret dX9_two_51 rfl ?_
          first | (refine mOk ?zqa ?zqb hK1; (case zqa => (first | ((simp [w_two, *]; done)) | (exfalso; contradiction))); (case zqb => (exact rfl)))
        · (try simp only [bi_0, bi_1, Classical.not_not, m0, m1] at h4)
          refine gp_aload_n dX9_two_35 rfl ?_
          refine gp_pu (st' := .int (-6) :: _) dX9_two_36 rfl ?_
          refine gp_call (kind := 1) (args := [.ref _, .int _]) (rest := _) dX9_two_38 (Or.inr (Or.inl ⟨rfl, rfl⟩)) mk_9_127 (by decide) me_127 rfl rfl rfl rfl rfl (mm_rc_of (by first | rfl | assumption | (simp only [*]; done))) (ok_X9_no _ _ _ _ (by decide)) rfl ?_
          refine gp_goto (t := 51) dX9_two_41 (by decide) ?_
          refine gp_iret dX9_two_51 rfl ?_
          first | (refine mNo ?zqa ?zqc hs; (case zqa => (first | ((simp [w_two, *]; done)) | (exfalso; contradiction))); (case zqc => (unfold isW; decide)))
      · (try simp only [bi_0, bi_1, Classical.not_not, m0, m1] at h3)
        refine gp_aload_n dX9_two_24 rfl ?_
        refine gp_pu (st' := .int (-1) :: _) dX9_two_25 rfl ?_
        refine gp_call (kind := 1) (args := [.ref _, .int _]) (rest := _) dX9_two_26 (Or.inr (Or.inl ⟨rfl, rfl⟩)) mk_9_127 (by decide) me_127 rfl rfl rfl rfl rfl (mm_rc_of (by first | rfl | assumption | (simp only [*]; done))) (ok_X9_no _ _ _ _ (by decide)) rfl ?_
        refine gp_iret dX9_two_29 rfl ?_
        first | (refine mNo ?zqa ?zqc hs; (case zqa => (first | ((simp [w_two, *]; done)) | (exfalso; contradiction))); (case zqc => (unfold isW; decide)))

theorem eq_two (c e k : Int32) : eqc 82 195 [.int c, .int e, .int k] := by
  refine eqc_q fun I L hR => ?_
  obtain ⟨N, S, hb, hS, hL, hK, hT, hW, hE⟩ := hR
  refine ⟨_, w_two N S c e k, w_two_w N S c e k, cl_two 33 hb, fun C J hs => ml_two 31 hb.1 hs⟩
end P60
