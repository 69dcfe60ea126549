/-! PUBLIC METHODS: fault, sackOf, childOf, holds, element, status, trace -/
section P61
variable {I C J : pI} {L : pL} {N S : Nat}
theorem eqc_q0 {mi mi' : Nat} {as : List Value} (h : ∀ I L, RR I L → ∃ v, cP 40 mi (.ref 0 :: as) (mm_sh, mm_R, I, L) (pX (some v) L (sc I)) ∧ (∀ C J, mR I C J → cP 40 mi' (.ref 108 :: as) (mm_sh, mm_R, J, L) (pX (some v) L (mR I C)))) : eqc mi mi' as := by
  refine eqc_of fun I L hR => ?_
  obtain ⟨v, h1, h2⟩ := h I L hR
  refine ⟨v, L, I, I, L, h1, fun k hk => rfl, h2, ?_⟩
  have : mg I I = I := by funext k; unfold mg; split <;> rfl
  rw [this]
  exact hR

set_option maxHeartbeats 400000 in
theorem cl_fault (d : Nat) (hb : bR I N S) (hE : rE I) : cP (d + 1) 76 [.ref 0] (mm_sh, mm_R, I, L) (pX (some (.int (I 108 9))) L (sc I)) := by
  have hs := sc.rf I
  have e11 : I 1 1 = nI N := hb.c11 hs
  have e13 : I 1 3 = nI S := hb.c13 hs
  refine cP.of_gP (d := d + 0) me_76 ⟨Nat.le_of_ble_eq_true rfl, rfl⟩ ?_
  show gP mm_cs0 _ _ _ _ _ _ [some (.ref _)] [] _ _
  refine gp_aload_n dX8_fault_0 rfl ?_
  refine gp_giv dX8_fault_1 mf_8_70 (by decide) (by first | rfl | assumption | (simp only [*]; done)) (by first | exact rfl) ?_
  refine gp_iret dX8_fault_4 rfl ?_
  first | (refine pX.mk (congrArg some (congrArg Value.int ?zqa)) (sc.rf I); (case zqa => (exact hE.1)))

set_option maxHeartbeats 400000 in
theorem ml_fault (d : Nat) (v : vN I N S) (hs : mR I C J)  : cP (d + 1) 165 [.ref 108] (mm_sh, mm_R, J, L) (pX (some (.int (I 108 9))) L (mR I C)) := by
  have m0 : J 108 0 = nI N := (hs.r (by decide)).trans v.2.2.1
  have m1 : J 108 1 = nI S := (hs.r (by decide)).trans v.2.2.2.1
  refine cP.of_gP (d := d + 0) me_165 ⟨Nat.le_of_ble_eq_true rfl, rfl⟩ ?_
  show gP mm_cs0 _ _ _ _ _ _ [some (.ref _)] [] _ _
  refine gp_aload_n dX9_fault_0 rfl ?_
  refine gp_giv dX9_fault_1 mf_9_25 (by decide) (by first | rfl | assumption | (simp only [*]; done)) (by first | exact hs.1 _ _ rfl | exact rfl) ?_
  refine gp_iret dX9_fault_4 rfl ?_
  first | (refine pX.mk (congrArg some (congrArg Value.int ?zqa)) hs; (case zqa => (exact rfl)))

theorem eq_fault  : eqc 76 165 [] := by
  refine eqc_q0 fun I L hR => ?_
  obtain ⟨N, S, hb, hS, hL, hK, hT, hW, hE⟩ := hR
  exact ⟨_, cl_fault 39 hb hE, fun C J hs => ml_fault 39 hb.1 hs⟩

def w_sO (S : Nat) (k w : Int32) : Int32 := if ¬ (0 ≤ k ∧ k < nI S) then -1 else if w < 0 ∨ 1 < w then -5 else 0
theorem w_sO_w (S : Nat) (k w : Int32) : w_sO S k w = 0 ∨ isW (w_sO S k w) := by unfold w_sO; (repeat' split) <;> first | exact Or.inl rfl | (right; unfold isW; decide)
theorem i_01 {w : Int32} (h0 : ¬ w < 0) (h1 : ¬ 1 < w) : w = 0 ∨ w = 1 := by
  rw [ti_lt, ti_0] at h0
  rw [ti_lt, ti_1] at h1
  by_cases h : w.toInt = 0
  · exact Or.inl (ti_eq.mpr h)
  · exact Or.inr (ti_eq.mpr (by rw [ti_1]; omega))
theorem i_n01 {w : Int32} (h0 : ¬ w = 0) (h1 : ¬ w = 1) : w < 0 ∨ 1 < w := by
  by_cases a : w < 0
  · exact Or.inl a
  · by_cases b : 1 < w
    · exact Or.inr b
    · rcases i_01 a b with h | h
      · exact absurd h h0
      · exact absurd h h1
def q_sO (I : pI) (k w : Int32) : Int32 := if w = 0 then I 116 k.toNatClampNeg else I 117 k.toNatClampNeg

set_option maxHeartbeats 400000 in
theorem cl_sackOf (d : Nat) (hb : bR I N S) {k w : Int32} : cP (d + 7) 70 [.ref 0, .int k, .int w] (mm_sh, mm_R, I, L) (pX (some (.int (vq (w_sO S k w) (q_sO I k w)))) L (sc (rI I (w_sO S k w)))) := by
  have hs := sc.rf I
  have e11 : I 1 1 = nI N := hb.c11 hs
  have e13 : I 1 3 = nI S := hb.c13 hs
  refine cP.of_gP (d := d + 6) me_70 ⟨Nat.le_of_ble_eq_true rfl, rfl⟩ ?_
  show gP mm_cs0 _ _ _ _ _ _ [some (.ref _), some (.int _), some (.int _)] [] _ _
  refine gp_aload_n dX8_sackOf_0 rfl ?_
  refine gp_gr dX8_sackOf_1 mf_8_10 rfl (by first | rfl | assumption | (simp only [*]; done)) (by first | rfl | assumption | (simp only [*]; done)) ?_
  refine gp_iload_n dX8_sackOf_4 rfl ?_
  refine gp_call (kind := 1) (args := [.ref _, .int _]) (rest := _) dX8_sackOf_5 (Or.inr (Or.inl ⟨rfl, rfl⟩)) mk_8_203 (by decide) me_4 rfl rfl rfl rfl rfl (mm_rc_of (by first | rfl | assumption | (simp only [*]; done))) (ok_X1_hasSack _ _ _ _ rfl _) rfl ?_
  refine gp_ifc (t := 17) dX8_sackOf_8 (by decide) c1_ne (fun h1 => ?_) (fun h1 => ?_)
  · (try simp only [bi_0, bi_1, Classical.not_not, e11, e13] at h1)
    refine gp_iload_n dX8_sackOf_17 rfl ?_
    refine gp_ifc (t := 26) dX8_sackOf_18 (by decide) c1_lt (fun h2 => ?_) (fun h2 => ?_)
    · have h2' := Int32.not_le.mpr h2
      (try simp only [bi_0, bi_1, Classical.not_not, e11, e13] at h2)
      refine gp_aload_n dX8_sackOf_26 rfl ?_
      refine gp_pu (st' := .int (-5) :: _) dX8_sackOf_27 rfl ?_
      refine gp_call (kind := 1) (args := [.ref _, .int _]) (rest := _) dX8_sackOf_29 (Or.inr (Or.inl ⟨rfl, rfl⟩)) mk_8_79 (by decide) me_100 rfl rfl rfl rfl rfl (mm_rc_of (by first | rfl | assumption | (simp only [*]; done))) (ok_X8_refuse _ _ _ _) rfl ?_
      refine gp_iret dX8_sackOf_32 rfl ?_
      (refine cNo ?zqa (by unfold isW; decide); (case zqa => ((simp [w_sO, *]; done))))
    · have h2' := Int32.not_lt.mp h2
      (try simp only [bi_0, bi_1, Classical.not_not, e11, e13] at h2)
      refine gp_iload_n dX8_sackOf_21 rfl ?_
      refine gp_pu (st' := .int (1) :: _) dX8_sackOf_22 rfl ?_
      refine gp_icc (t := 33) dX8_sackOf_23 (by decide) c2_le (fun h3 => ?_) (fun h3 => ?_)
      · have h3' := Int32.not_lt.mpr h3
        (try simp only [bi_0, bi_1, Classical.not_not, e11, e13] at h3)
        obtain ⟨k1, k2, k3, k4, k5, k6⟩ := hb.kk hs (k := k) (by assumption)
        refine gp_iload_n dX8_sackOf_33 rfl ?_
        refine gp_ifc (t := 52) dX8_sackOf_34 (by decide) c1_ne (fun h4 => ?_) (fun h4 => ?_)
        · (try simp only [bi_0, bi_1, Classical.not_not, e11, e13] at h4)
          refine gp_aload_n dX8_sackOf_52 rfl ?_
          refine gp_gr dX8_sackOf_53 mf_8_10 rfl (by first | rfl | assumption | (simp only [*]; done)) (by first | rfl | assumption | (simp only [*]; done)) ?_
          refine gp_gr dX8_sackOf_56 mf_8_206 rfl (by first | rfl | assumption | (simp only [*]; done)) (by first | rfl | assumption | (simp only [*]; done)) ?_
          refine gp_iload_n dX8_sackOf_59 rfl ?_
          refine gp_aal dX8_sackOf_60 (by first | rfl | assumption | (simp only [*]; done)) (by decide) (by first | rfl | assumption | (simp only [*]; done)) (by first | rfl | assumption | (simp only [*]; done)) ?_
          refine gp_giv dX8_sackOf_61 mf_8_215 (by decide) (by first | rfl | assumption | (simp only [*]; done)) (by first | exact k4 | exact k5 | exact rfl) ?_
          refine gp_iret dX8_sackOf_64 rfl ?_
          first | (refine cOk ?zqa ?zqb hs; (case zqa => ((simp [w_sO, *]; done))); (case zqb => ((simp [q_sO, *]; done))))
        · (try simp only [bi_0, bi_1, Classical.not_not, e11, e13] at h4)
          refine gp_aload_n dX8_sackOf_37 rfl ?_
          refine gp_gr dX8_sackOf_38 mf_8_10 rfl (by first | rfl | assumption | (simp only [*]; done)) (by first | rfl | assumption | (simp only [*]; done)) ?_
          refine gp_gr dX8_sackOf_41 mf_8_206 rfl (by first | rfl | assumption | (simp only [*]; done)) (by first | rfl | assumption | (simp only [*]; done)) ?_
          refine gp_iload_n dX8_sackOf_44 rfl ?_
          refine gp_aal dX8_sackOf_45 (by first | rfl | assumption | (simp only [*]; done)) (by decide) (by first | rfl | assumption | (simp only [*]; done)) (by first | rfl | assumption | (simp only [*]; done)) ?_
          refine gp_giv dX8_sackOf_46 mf_8_210 (by decide) (by first | rfl | assumption | (simp only [*]; done)) (by first | exact k4 | exact k5 | exact rfl) ?_
          refine gp_goto (t := 64) dX8_sackOf_49 (by decide) ?_
          refine gp_iret dX8_sackOf_64 rfl ?_
          first | (refine cOk ?zqa ?zqb hs; (case zqa => ((simp [w_sO, *]; done))); (case zqb => ((simp [q_sO, *]; done))))
      · have h3' := Int32.not_le.mp h3
        (try simp only [bi_0, bi_1, Classical.not_not, e11, e13] at h3)
        refine gp_aload_n dX8_sackOf_26 rfl ?_
        refine gp_pu (st' := .int (-5) :: _) dX8_sackOf_27 rfl ?_
        refine gp_call (kind := 1) (args := [.ref _, .int _]) (rest := _) dX8_sackOf_29 (Or.inr (Or.inl ⟨rfl, rfl⟩)) mk_8_79 (by decide) me_100 rfl rfl rfl rfl rfl (mm_rc_of (by first | rfl | assumption | (simp only [*]; done))) (ok_X8_refuse _ _ _ _) rfl ?_
        refine gp_iret dX8_sackOf_32 rfl ?_
        (refine cNo ?zqa (by unfold isW; decide); (case zqa => ((simp [w_sO, *]; done))))
  · (try simp only [bi_0, bi_1, Classical.not_not, e11, e13] at h1)
    refine gp_aload_n dX8_sackOf_11 rfl ?_
    refine gp_pu (st' := .int (-1) :: _) dX8_sackOf_12 rfl ?_
    refine gp_call (kind := 1) (args := [.ref _, .int _]) (rest := _) dX8_sackOf_13 (Or.inr (Or.inl ⟨rfl, rfl⟩)) mk_8_79 (by decide) me_100 rfl rfl rfl rfl rfl (mm_rc_of (by first | rfl | assumption | (simp only [*]; done))) (ok_X8_refuse _ _ _ _) rfl ?_
    refine gp_iret dX8_sackOf_16 rfl ?_
    (refine cNo ?zqa (by unfold isW; decide); (case zqa => ((simp [w_sO, *]; done))))

set_option maxHeartbeats 400000 in
theorem ml_sackOf (d : Nat) (v : vN I N S) (hs : mR I C J) {k w : Int32} : cP (d + 7) 147 [.ref 108, .int k, .int w] (mm_sh, mm_R, J, L) (pX (some (.int (vq (w_sO S k w) (q_sO I k w)))) L (mR (rM I (w_sO S k w)) C)) := by
  have m0 : J 108 0 = nI N := (hs.r (by decide)).trans v.2.2.1
  have m1 : J 108 1 = nI S := (hs.r (by decide)).trans v.2.2.2.1
  refine cP.of_gP (d := d + 6) me_147 ⟨Nat.le_of_ble_eq_true rfl, rfl⟩ ?_
  show gP mm_cs0 _ _ _ _ _ _ [some (.ref _), some (.int _), some (.int _)] [] _ _
  refine gp_aload_n dX9_sackOf_0 rfl ?_
  refine gp_iload_n dX9_sackOf_1 rfl ?_
  refine gp_call (kind := 1) (args := [.ref _, .int _]) (rest := _) dX9_sackOf_2 (Or.inr (Or.inl ⟨rfl, rfl⟩)) mk_9_156 (by decide) me_131 rfl rfl rfl rfl rfl (mm_rc_of (by first | rfl | assumption | (simp only [*]; done))) (ok_X9_isSack _ _ _ _) rfl ?_
  refine gp_ifc (t := 14) dX9_sackOf_5 (by decide) c1_ne (fun h1 => ?_) (fun h1 => ?_)
  · (try simp only [bi_0, bi_1, Classical.not_not, m0, m1] at h1)
    have k1 := v.sk8 (s := k) (by assumption)
    refine gp_iload_n dX9_sackOf_14 rfl ?_
    refine gp_ifc (t := 27) dX9_sackOf_15 (by decide) c1_ne (fun h2 => ?_) (fun h2 => ?_)
    · (try simp only [bi_0, bi_1, Classical.not_not, m0, m1] at h2)
      refine gp_iload_n dX9_sackOf_27 rfl ?_
      refine gp_pu (st' := .int (1) :: _) dX9_sackOf_28 rfl ?_
      refine gp_icc (t := 41) dX9_sackOf_29 (by decide) c2_ne (fun h3 => ?_) (fun h3 => ?_)
      · (try simp only [bi_0, bi_1, Classical.not_not, m0, m1] at h3)
        have hn := i_n01 h2 h3
        refine gp_aload_n dX9_sackOf_41 rfl ?_
        refine gp_pu (st' := .int (-5) :: _) dX9_sackOf_42 rfl ?_
        refine gp_call (kind := 1) (args := [.ref _, .int _]) (rest := _) dX9_sackOf_44 (Or.inr (Or.inl ⟨rfl, rfl⟩)) mk_9_127 (by decide) me_127 rfl rfl rfl rfl rfl (mm_rc_of (by first | rfl | assumption | (simp only [*]; done))) (ok_X9_no _ _ _ _ (by decide)) rfl ?_
        refine gp_iret dX9_sackOf_47 rfl ?_
        first | (refine mNo ?zqa (by unfold isW; decide) hs; (case zqa => ((simp [w_sO, *]; done))))
      · (try simp only [bi_0, bi_1, Classical.not_not, m0, m1] at h3)
        refine gp_aload_n dX9_sackOf_32 rfl ?_
        refine gp_gr dX9_sackOf_33 mf_9_53 rfl (by first | rfl | assumption | (simp only [*]; done)) (by first | rfl | assumption | (simp only [*]; done)) ?_
        refine gp_iload_n dX9_sackOf_36 rfl ?_
        refine gp_ialv dX9_sackOf_37 rfl (by first | rfl | assumption | (simp only [*]; done)) (by first | rfl | assumption | (simp only [*]; done)) (by first | exact hs.1 _ _ rfl | exact rfl) ?_
        refine gp_goto (t := 47) dX9_sackOf_38 (by decide) ?_
        refine gp_iret dX9_sackOf_47 rfl ?_
        first | (refine mOk ?zqa ?zqb hs; (case zqa => ((simp [w_sO, *]; done))); (case zqb => ((simp [q_sO, *]; done))))
    · (try simp only [bi_0, bi_1, Classical.not_not, m0, m1] at h2)
      refine gp_aload_n dX9_sackOf_18 rfl ?_
      refine gp_gr dX9_sackOf_19 mf_9_50 rfl (by first | rfl | assumption | (simp only [*]; done)) (by first | rfl | assumption | (simp only [*]; done)) ?_
      refine gp_iload_n dX9_sackOf_22 rfl ?_
      refine gp_ialv dX9_sackOf_23 rfl (by first | rfl | assumption | (simp only [*]; done)) (by first | rfl | assumption | (simp only [*]; done)) (by first | exact hs.1 _ _ rfl | exact rfl) ?_
      refine gp_goto (t := 47) dX9_sackOf_24 (by decide) ?_
      refine gp_iret dX9_sackOf_47 rfl ?_
      first | (refine mOk ?zqa ?zqb hs; (case zqa => ((simp [w_sO, *]; done))); (case zqb => ((simp [q_sO, *]; done))))
  · (try simp only [bi_0, bi_1, Classical.not_not, m0, m1] at h1)
    refine gp_aload_n dX9_sackOf_8 rfl ?_
    refine gp_pu (st' := .int (-1) :: _) dX9_sackOf_9 rfl ?_
    refine gp_call (kind := 1) (args := [.ref _, .int _]) (rest := _) dX9_sackOf_10 (Or.inr (Or.inl ⟨rfl, rfl⟩)) mk_9_127 (by decide) me_127 rfl rfl rfl rfl rfl (mm_rc_of (by first | rfl | assumption | (simp only [*]; done))) (ok_X9_no _ _ _ _ (by decide)) rfl ?_
    refine gp_iret dX9_sackOf_13 rfl ?_
    first | (refine mNo ?zqa (by unfold isW; decide) hs; (case zqa => ((simp [w_sO, *]; done))))

theorem eq_sackOf (k w : Int32) : eqc 70 147 [.int k, .int w] := by
  refine eqc_q fun I L hR => ?_
  obtain ⟨N, S, hb, hS, hL, hK, hT, hW, hE⟩ := hR
  refine ⟨_, w_sO S k w, w_sO_w S k w, cl_sackOf 33 hb, fun C J hs => ml_sackOf 33 hb.1 hs⟩
end P61
