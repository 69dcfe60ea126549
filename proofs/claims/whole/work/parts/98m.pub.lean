/-! PUBLIC METHODS: race -/
section P98m
variable {I C J K : pI} {L : pL} {N S : Nat}

theorem y_rw_in (v : vN I N S) (sd : Int32) : y_rw I N sd = -1 ∨ (y_rw I N sd).toNatClampNeg < 8 := by
  have hN8 := v.1
  unfold y_rw
  by_cases z : (x_lst 999 (y_rz I N sd).2.1 N).1 = -1
  · exact Or.inl z
  · obtain ⟨f, f1, f2, f3⟩ := (x_lst_inv (y_rz I N sd).2.1 N (by omega)).2.2 z
    rw [f2, nI_clamp (by omega)]
    exact Or.inr (by omega)
theorem scr_92 {k j : Nat} (h : scr k j = false) : k < 92 ∨ 107 < k := by
  by_cases q : k < 92 ∨ 107 < k
  · exact q
  · have h1 : Nat.ble 92 k = true := Nat.ble_eq_true_of_le (by omega)
    have h2 : Nat.ble k 107 = true := Nat.ble_eq_true_of_le (by omega)
    unfold scr at h
    rw [h1, h2] at h
    simp at h
theorem x_rcM_sc (hb : bR I N S) (h0 : 0 < N) : sc (uY I (I 108 7 + 1) (y_rz I N (I 108 8)).2.2 (y_rw I N (I 108 8))) (x_rcM I N) := by
  intro k j z
  obtain ⟨f1, f2, f3, f4, f5, f6, f7, f8⟩ := hb.2
  rw [x_rcM_g hb.1 h0 hb.cF k j (scr_92 z), f4, f5]
  unfold uY
  rfl

set_option maxHeartbeats 400000 in
theorem cl_race (d : Nat) (hb : bR I N S) (h0 : 0 < N) : cP (d + 7) 92 [.ref 0] (mm_sh, mm_R, I, L) (pX (some (.int (y_rw I N (I 108 8)))) L (sc (uY I (I 108 7 + 1) (y_rz I N (I 108 8)).2.2 (y_rw I N (I 108 8))))) := by
  have hs := sc.rf I
  have e11 : I 1 1 = nI N := hb.c11 hs
  have e13 : I 1 3 = nI S := hb.c13 hs
  refine cP.of_gP (d := d + 6) me_92 ⟨Nat.le_of_ble_eq_true rfl, rfl⟩ ?_
  show gP mm_cs0 _ _ _ _ _ _ [some (.ref _)] [] _ _
  refine gp_aload_n dX8_race_0 rfl ?_
  refine gp_gr dX8_race_1 mf_8_10 rfl (by first | rfl | assumption | (simp only [*]; done)) (by first | rfl | assumption | (simp only [*]; done)) ?_
  refine gp_giv dX8_race_4 mf_8_154 (by decide) (by first | rfl | assumption | (simp only [*]; done)) (by first | exact e11 | exact rfl) ?_
  refine gp_ifc (t := 19) dX8_race_7 (by decide) c1_ne (fun h1 => ?_) (fun h1 => ?_)
  · refine gp_aload_n dX8_race_19 rfl ?_
    refine gp_call (kind := 1) (args := [.ref _]) (rest := _) dX8_race_20 (Or.inr (Or.inl ⟨rfl, rfl⟩)) mk_8_337 (by decide) me_123 rfl rfl rfl rfl rfl (mm_rc_of (by first | rfl | assumption | (simp only [*]; done))) (ok_X8_raceInTruth _ I L N (hb.fOk (sc.rf I))) rfl ?_
    refine gp_iret dX8_race_23 rfl ?_
    exact pX.mk (congrArg some (congrArg Value.int ((x_rcF_g hb.1 h0 hb.cF).trans (by rw [hb.2.2.2.2.2.1])))) (x_rcM_sc hb h0)
  · exact absurd ((nI_0f hb.n.1).mp (Classical.not_not.mp h1)) (by omega)

set_option maxHeartbeats 400000 in
theorem ml_race (d : Nat) (v : vN I N S) (hs : mR I C J) (h0 : 0 < N) : cP (d + 9) 209 [.ref 108] (mm_sh, mm_R, J, L) (pX (some (.int (y_rw I N (I 108 8)))) L (mR (uX I (I 108 7 + 1) (y_rz I N (I 108 8)).2.2 (y_rw I N (I 108 8))) C)) := by
  have m0 : J 108 0 = nI N := (hs.r (by decide)).trans v.2.2.1
  have m1 : J 108 1 = nI S := (hs.r (by decide)).trans v.2.2.2.1
  refine cP.of_gP (d := d + 8) me_209 ⟨Nat.le_of_ble_eq_true rfl, rfl⟩ ?_
  show gP mm_cs0 _ _ _ _ _ _ [some (.ref _)] [] _ _
  refine gp_aload_n dX9_race_0 rfl ?_
  refine gp_giv dX9_race_1 mf_9_117 (by decide) (by first | rfl | assumption | (simp only [*]; done)) (by first | exact m0 | exact rfl) ?_
  refine gp_ifc (t := 16) dX9_race_4 (by decide) c1_ne (fun h1 => ?_) (fun h1 => ?_)
  · refine gp_aload_n dX9_race_16 rfl ?_
    refine gp_callX (kind := 1) (args := [.ref _]) (rest := _) dX9_race_17 (Or.inr (Or.inl ⟨rfl, rfl⟩)) mk_9_343 (by decide) me_208 rfl rfl rfl rfl rfl (mm_rc_of (by first | rfl | assumption | (simp only [*]; done))) (md_raced _ v hs) ?_
    intro K1 hK1
    refine gp_iret dX9_race_20 rfl ?_
    exact pX.mk rfl hK1
  · exact absurd ((nI_0f v.1).mp (Classical.not_not.mp h1)) (by omega)
end P98m
