/-! PUBLIC METHODS: race, closed -/
section P98n
variable {I C J K : pI} {L : pL} {N S : Nat}

set_option maxHeartbeats 400000 in
theorem cn_race (d : Nat) (hb : bR I N S) (h0 : N = 0) : cP (d + 7) 92 [.ref 0] (mm_sh, mm_R, I, L) (pX (some (.int (vt (-5) 0))) L (sc (rI I (-5)))) := by
  have hs := sc.rf I
  have e11 : I 1 1 = nI N := hb.c11 hs
  have e13 : I 1 3 = nI S := hb.c13 hs
  refine cP.of_gP (d := d + 6) me_92 ⟨Nat.le_of_ble_eq_true rfl, rfl⟩ ?_
  show gP mm_cs0 _ _ _ _ _ _ [some (.ref _)] [] _ _
  refine gp_aload_n dX8_race_0 rfl ?_
  refine gp_gr dX8_race_1 mf_8_10 rfl (by first | rfl | assumption | (simp only [*]; done)) (by first | rfl | assumption | (simp only [*]; done)) ?_
  refine gp_giv dX8_race_4 mf_8_154 (by decide) (by first | rfl | assumption | (simp only [*]; done)) (by first | exact e11 | exact rfl) ?_
  refine gp_ifc (t := 19) dX8_race_7 (by decide) c1_ne (fun h1 => ?_) (fun h1 => ?_)
  · exact absurd ((nI_0f hb.n.1).mpr h0) h1
  · refine gp_aload_n dX8_race_10 rfl ?_
    refine gp_pu (st' := .int (-15) :: _) dX8_race_11 rfl ?_
    refine gp_call (kind := 1) (args := [.ref _, .int _]) (rest := _) dX8_race_13 (Or.inr (Or.inl ⟨rfl, rfl⟩)) mk_8_79 (by decide) me_100 rfl rfl rfl rfl rfl (mm_rc_of (by first | rfl | assumption | (simp only [*]; done))) (ok_X8_refuse _ _ _ _) rfl ?_
    refine gp_goto (t := 23) dX8_race_16 (by decide) ?_
    refine gp_iret dX8_race_23 rfl ?_
    exact cNt (w := -5) (q := 0) (n := -5) rfl (by unfold isW; decide) (by decide)

set_option maxHeartbeats 400000 in
theorem mn_race (d : Nat) (v : vN I N S) (hs : mR I C J) (h0 : N = 0) : cP (d + 9) 209 [.ref 108] (mm_sh, mm_R, J, L) (pX (some (.int (vt (-5) 0))) L (mR (rM I (-5)) C)) := by
  have m0 : J 108 0 = nI N := (hs.r (by decide)).trans v.2.2.1
  have m1 : J 108 1 = nI S := (hs.r (by decide)).trans v.2.2.2.1
  refine cP.of_gP (d := d + 8) me_209 ⟨Nat.le_of_ble_eq_true rfl, rfl⟩ ?_
  show gP mm_cs0 _ _ _ _ _ _ [some (.ref _)] [] _ _
  refine gp_aload_n dX9_race_0 rfl ?_
  refine gp_giv dX9_race_1 mf_9_117 (by decide) (by first | rfl | assumption | (simp only [*]; done)) (by first | exact m0 | exact rfl) ?_
  refine gp_ifc (t := 16) dX9_race_4 (by decide) c1_ne (fun h1 => ?_) (fun h1 => ?_)
  · exact absurd ((nI_0f v.1).mpr h0) h1
  · refine gp_aload_n dX9_race_7 rfl ?_
    refine gp_pu (st' := .int (-5) :: _) dX9_race_8 rfl ?_
    refine gp_call (kind := 1) (args := [.ref _, .int _]) (rest := _) dX9_race_10 (Or.inr (Or.inl ⟨rfl, rfl⟩)) mk_9_330 (by decide) me_128 rfl rfl rfl rfl rfl (mm_rc_of (by first | rfl | assumption | (simp only [*]; done))) (ok_X9_noTen _ _ _ _ (by decide)) rfl ?_
    refine gp_goto (t := 20) dX9_race_13 (by decide) ?_
    refine gp_iret dX9_race_20 rfl ?_
    exact mNt (w := -5) (q := 0) (n := -5) rfl (by unfold isW; decide) hs

theorem eq_race : eqc 92 209 [] := by
  refine eqc_of fun I L hR => ?_
  have hR0 := hR
  obtain ⟨N, S, hb, hS, hL, hK, hT, hW, hE⟩ := hR
  by_cases z : N = 0
  · exact ⟨_, L, rI I (-5), rM I (-5), L, cn_race 33 hb z, fun k hk => rI_o I (-5) (by omega), fun C J hs => mn_race 31 hb.1 hs z, hR0.no (-5) (Or.inr (by unfold isW; decide))⟩
  · refine ⟨_, L, uY I (I 108 7 + 1) (y_rz I N (I 108 8)).2.2 (y_rw I N (I 108 8)), uX I (I 108 7 + 1) (y_rz I N (I 108 8)).2.2 (y_rw I N (I 108 8)), L, cl_race 33 hb (by omega), fun k hk => ?_, fun C J hs => ml_race 31 hb.1 hs (by omega), RR_race hR0 hb (y_rw_in hb.1 _)⟩
    have hw := y_rw_in hb.1 (I 108 8)
    funext j
    unfold uY
    rw [if_neg (by omega), if_neg (by omega), if_neg]
    rintro ⟨q0, q1, q2⟩
    rcases hw with hw | hw
    · exact q0 hw
    · omega
end P98n
