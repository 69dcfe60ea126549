/-! PUBLIC METHODS: act, the pair -/
section P84
variable {I C J : pI} {L : pL} {N S : Nat}

set_option maxHeartbeats 400000 in
theorem ru_0_0 (d : Nat) {cc : Nat} (hcs : mm_sh[cc]? = some (0, 0)) (hcc : cc ≠ 71) {m a x : Int32} (hkk : J cc 0 = 0) (hpa : J cc 1 = a) (hr1 : J 71 1 = nI 0) : cP (d + 4) 15 [.ref 71, .ref cc, .int m, .int 0, .int x] (mm_sh, mm_R, J, L) (pX (some (.int (x + m))) L (fun K => K = nls (mm_u (mm_u (mm_u J 71 2 0) 71 3 m) 71 4 a) 0 [10])) := by
  refine cP.of_gP (d := d + 3) me_15 ⟨Nat.le_of_ble_eq_true rfl, rfl⟩ ?_
  show gP mm_cs0 _ _ _ _ _ _ [some (.ref _), some (.ref _), some (.int _), some (.int _), some (.int _)] [] _ _
  refine gp_aload_n dX3_run_0 rfl ?_
  refine gp_aload_n dX3_run_1 rfl ?_
  refine gp_giv dX3_run_2 mf_3_15 (by decide) (by first | rfl | assumption | (simp only [*]; done)) (by first | exact hkk | exact hpa | exact (mm_u_j _ _ (by decide)).trans ((mm_u_j _ _ (by decide)).trans (mm_u_s _ _ _ _)) | exact (mm_u_o _ _ _ _ hcc).trans ((mm_u_o _ _ _ _ hcc).trans hpa) | exact rfl) ?_
  refine gp_pi dX3_run_5 mf_3_21 rfl rfl (by first | rfl | assumption | (simp only [*]; done)) ?_
  refine gp_aload_n dX3_run_8 rfl ?_
  refine gp_iload_n dX3_run_9 rfl ?_
  refine gp_pi dX3_run_10 mf_3_22 rfl rfl (by first | rfl | assumption | (simp only [*]; done)) ?_
  refine gp_aload_n dX3_run_13 rfl ?_
  refine gp_aload_n dX3_run_14 rfl ?_
  refine gp_giv dX3_run_15 mf_3_25 (by decide) (by first | rfl | assumption | (simp only [*]; done)) (by first | exact hkk | exact hpa | exact (mm_u_j _ _ (by decide)).trans ((mm_u_j _ _ (by decide)).trans (mm_u_s _ _ _ _)) | exact (mm_u_o _ _ _ _ hcc).trans ((mm_u_o _ _ _ _ hcc).trans hpa) | exact rfl) ?_
  refine gp_pi dX3_run_18 mf_3_28 rfl rfl (by first | rfl | assumption | (simp only [*]; done)) ?_
  refine gp_aload_n dX3_run_21 rfl ?_
  refine gp_iload_n dX3_run_22 rfl ?_
  refine gp_aload_n dX3_run_23 rfl ?_
  refine gp_giv dX3_run_24 mf_3_21 (by decide) (by first | rfl | assumption | (simp only [*]; done)) (by first | exact hkk | exact hpa | exact (mm_u_j _ _ (by decide)).trans ((mm_u_j _ _ (by decide)).trans (mm_u_s _ _ _ _)) | exact (mm_u_o _ _ _ _ hcc).trans ((mm_u_o _ _ _ _ hcc).trans hpa) | exact rfl) ?_
  refine gp_iload dX3_run_27 rfl ?_
  refine gp_pu (st' := .int (0) :: _) dX3_run_29 rfl ?_
  refine gp_callX (kind := 0) (args := [.ref _, .int _, .int _, .int _, .int _]) (rest := _) dX3_run_30 (Or.inl ⟨rfl, rfl⟩) mk_3_31 (by decide) me_20 rfl rfl rfl rfl rfl rfl (rn_0_0 _ (J := mm_u (mm_u (mm_u J 71 2 0) 71 3 m) 71 4 a) (r := 0) (m := m) (a := a) (k0 := 0) ⟨(mm_u_j _ _ (by decide)).trans ((mm_u_j _ _ (by decide)).trans ((mm_u_j _ _ (by decide)).trans hr1)), (mm_u_j _ _ (by decide)).trans ((mm_u_j _ _ (by decide)).trans (mm_u_s _ _ _ _)), (mm_u_j _ _ (by decide)).trans (mm_u_s _ _ _ _), mm_u_s _ _ _ _⟩ (by decide) (by decide)) ?_
  intro K1 hK1
  rw [hK1]
  refine gp_iret dX3_run_33 rfl ?_
  exact pX.mk rfl rfl

set_option maxHeartbeats 400000 in
theorem ru_0_1 (d : Nat) {cc : Nat} (hcs : mm_sh[cc]? = some (0, 0)) (hcc : cc ≠ 71) {m a x : Int32} (hkk : J cc 0 = 0) (hpa : J cc 1 = a) (hr1 : J 71 1 = nI 0) : cP (d + 5) 15 [.ref 71, .ref cc, .int m, .int 1, .int x] (mm_sh, mm_R, J, L) (pX (some (.int ((x + m) * 2))) L (fun K => K = nls (mm_u (mm_u (mm_u J 71 2 0) 71 3 m) 71 4 a) 0 [11, 10])) := by
  refine cP.of_gP (d := d + 4) me_15 ⟨Nat.le_of_ble_eq_true rfl, rfl⟩ ?_
  show gP mm_cs0 _ _ _ _ _ _ [some (.ref _), some (.ref _), some (.int _), some (.int _), some (.int _)] [] _ _
  refine gp_aload_n dX3_run_0 rfl ?_
  refine gp_aload_n dX3_run_1 rfl ?_
  refine gp_giv dX3_run_2 mf_3_15 (by decide) (by first | rfl | assumption | (simp only [*]; done)) (by first | exact hkk | exact hpa | exact (mm_u_j _ _ (by decide)).trans ((mm_u_j _ _ (by decide)).trans (mm_u_s _ _ _ _)) | exact (mm_u_o _ _ _ _ hcc).trans ((mm_u_o _ _ _ _ hcc).trans hpa) | exact rfl) ?_
  refine gp_pi dX3_run_5 mf_3_21 rfl rfl (by first | rfl | assumption | (simp only [*]; done)) ?_
  refine gp_aload_n dX3_run_8 rfl ?_
  refine gp_iload_n dX3_run_9 rfl ?_
  refine gp_pi dX3_run_10 mf_3_22 rfl rfl (by first | rfl | assumption | (simp only [*]; done)) ?_
  refine gp_aload_n dX3_run_13 rfl ?_
  refine gp_aload_n dX3_run_14 rfl ?_
  refine gp_giv dX3_run_15 mf_3_25 (by decide) (by first | rfl | assumption | (simp only [*]; done)) (by first | exact hkk | exact hpa | exact (mm_u_j _ _ (by decide)).trans ((mm_u_j _ _ (by decide)).trans (mm_u_s _ _ _ _)) | exact (mm_u_o _ _ _ _ hcc).trans ((mm_u_o _ _ _ _ hcc).trans hpa) | exact rfl) ?_
  refine gp_pi dX3_run_18 mf_3_28 rfl rfl (by first | rfl | assumption | (simp only [*]; done)) ?_
  refine gp_aload_n dX3_run_21 rfl ?_
  refine gp_iload_n dX3_run_22 rfl ?_
  refine gp_aload_n dX3_run_23 rfl ?_
  refine gp_giv dX3_run_24 mf_3_21 (by decide) (by first | rfl | assumption | (simp only [*]; done)) (by first | exact hkk | exact hpa | exact (mm_u_j _ _ (by decide)).trans ((mm_u_j _ _ (by decide)).trans (mm_u_s _ _ _ _)) | exact (mm_u_o _ _ _ _ hcc).trans ((mm_u_o _ _ _ _ hcc).trans hpa) | exact rfl) ?_
  refine gp_iload dX3_run_27 rfl ?_
  refine gp_pu (st' := .int (0) :: _) dX3_run_29 rfl ?_
  refine gp_callX (kind := 0) (args := [.ref _, .int _, .int _, .int _, .int _]) (rest := _) dX3_run_30 (Or.inl ⟨rfl, rfl⟩) mk_3_31 (by decide) me_20 rfl rfl rfl rfl rfl rfl (rn_1_0_0 _ (J := mm_u (mm_u (mm_u J 71 2 0) 71 3 m) 71 4 a) (r := 0) (m := m) (a := a) ⟨(mm_u_j _ _ (by decide)).trans ((mm_u_j _ _ (by decide)).trans ((mm_u_j _ _ (by decide)).trans hr1)), (mm_u_j _ _ (by decide)).trans ((mm_u_j _ _ (by decide)).trans (mm_u_s _ _ _ _)), (mm_u_j _ _ (by decide)).trans (mm_u_s _ _ _ _), mm_u_s _ _ _ _⟩ (by decide) (by decide)) ?_
  intro K1 hK1
  rw [hK1]
  refine gp_iret dX3_run_33 rfl ?_
  exact pX.mk rfl rfl

set_option maxHeartbeats 400000 in
theorem ru_0_2 (d : Nat) {cc : Nat} (hcs : mm_sh[cc]? = some (0, 0)) (hcc : cc ≠ 71) {m a x : Int32} (hkk : J cc 0 = 0) (hpa : J cc 1 = a) (hr1 : J 71 1 = nI 0) : cP (d + 6) 15 [.ref 71, .ref cc, .int m, .int 2, .int x] (mm_sh, mm_R, J, L) (pX (some (.int (((x + m) * 2) ^^^ ((x - a) + m)))) L (fun K => K = nls (mm_u (mm_u (mm_u J 71 2 0) 71 3 m) 71 4 a) 0 [12, 11, 10, 10])) := by
  refine cP.of_gP (d := d + 5) me_15 ⟨Nat.le_of_ble_eq_true rfl, rfl⟩ ?_
  show gP mm_cs0 _ _ _ _ _ _ [some (.ref _), some (.ref _), some (.int _), some (.int _), some (.int _)] [] _ _
  refine gp_aload_n dX3_run_0 rfl ?_
  refine gp_aload_n dX3_run_1 rfl ?_
  refine gp_giv dX3_run_2 mf_3_15 (by decide) (by first | rfl | assumption | (simp only [*]; done)) (by first | exact hkk | exact hpa | exact (mm_u_j _ _ (by decide)).trans ((mm_u_j _ _ (by decide)).trans (mm_u_s _ _ _ _)) | exact (mm_u_o _ _ _ _ hcc).trans ((mm_u_o _ _ _ _ hcc).trans hpa) | exact rfl) ?_
  refine gp_pi dX3_run_5 mf_3_21 rfl rfl (by first | rfl | assumption | (simp only [*]; done)) ?_
  refine gp_aload_n dX3_run_8 rfl ?_
  refine gp_iload_n dX3_run_9 rfl ?_
  refine gp_pi dX3_run_10 mf_3_22 rfl rfl (by first | rfl | assumption | (simp only [*]; done)) ?_
  refine gp_aload_n dX3_run_13 rfl ?_
  refine gp_aload_n dX3_run_14 rfl ?_
  refine gp_giv dX3_run_15 mf_3_25 (by decide) (by first | rfl | assumption | (simp only [*]; done)) (by first | exact hkk | exact hpa | exact (mm_u_j _ _ (by decide)).trans ((mm_u_j _ _ (by decide)).trans (mm_u_s _ _ _ _)) | exact (mm_u_o _ _ _ _ hcc).trans ((mm_u_o _ _ _ _ hcc).trans hpa) | exact rfl) ?_
  refine gp_pi dX3_run_18 mf_3_28 rfl rfl (by first | rfl | assumption | (simp only [*]; done)) ?_
  refine gp_aload_n dX3_run_21 rfl ?_
  refine gp_iload_n dX3_run_22 rfl ?_
  refine gp_aload_n dX3_run_23 rfl ?_
  refine gp_giv dX3_run_24 mf_3_21 (by decide) (by first | rfl | assumption | (simp only [*]; done)) (by first | exact hkk | exact hpa | exact (mm_u_j _ _ (by decide)).trans ((mm_u_j _ _ (by decide)).trans (mm_u_s _ _ _ _)) | exact (mm_u_o _ _ _ _ hcc).trans ((mm_u_o _ _ _ _ hcc).trans hpa) | exact rfl) ?_
  refine gp_iload dX3_run_27 rfl ?_
  refine gp_pu (st' := .int (0) :: _) dX3_run_29 rfl ?_
  refine gp_callX (kind := 0) (args := [.ref _, .int _, .int _, .int _, .int _]) (rest := _) dX3_run_30 (Or.inl ⟨rfl, rfl⟩) mk_3_31 (by decide) me_20 rfl rfl rfl rfl rfl rfl (rn_2_0_0 _ (J := mm_u (mm_u (mm_u J 71 2 0) 71 3 m) 71 4 a) (r := 0) (m := m) (a := a) ⟨(mm_u_j _ _ (by decide)).trans ((mm_u_j _ _ (by decide)).trans ((mm_u_j _ _ (by decide)).trans hr1)), (mm_u_j _ _ (by decide)).trans ((mm_u_j _ _ (by decide)).trans (mm_u_s _ _ _ _)), (mm_u_j _ _ (by decide)).trans (mm_u_s _ _ _ _), mm_u_s _ _ _ _⟩ (by decide) (by decide)) ?_
  intro K1 hK1
  rw [hK1]
  refine gp_iret dX3_run_33 rfl ?_
  exact pX.mk rfl rfl

set_option maxHeartbeats 400000 in
theorem ru_1_0 (d : Nat) {cc : Nat} (hcs : mm_sh[cc]? = some (0, 0)) (hcc : cc ≠ 71) {m a x : Int32} (hkk : J cc 0 = 1) (hpa : J cc 1 = a) (hr1 : J 71 1 = nI 0) : cP (d + 5) 15 [.ref 71, .ref cc, .int m, .int 0, .int x] (mm_sh, mm_R, J, L) (pX (some (.int ((x + m) + a))) L (fun K => K = nls (mm_u (mm_u (mm_u J 71 2 1) 71 3 m) 71 4 a) 0 [20, 10])) := by
  refine cP.of_gP (d := d + 4) me_15 ⟨Nat.le_of_ble_eq_true rfl, rfl⟩ ?_
  show gP mm_cs0 _ _ _ _ _ _ [some (.ref _), some (.ref _), some (.int _), some (.int _), some (.int _)] [] _ _
  refine gp_aload_n dX3_run_0 rfl ?_
  refine gp_aload_n dX3_run_1 rfl ?_
  refine gp_giv dX3_run_2 mf_3_15 (by decide) (by first | rfl | assumption | (simp only [*]; done)) (by first | exact hkk | exact hpa | exact (mm_u_j _ _ (by decide)).trans ((mm_u_j _ _ (by decide)).trans (mm_u_s _ _ _ _)) | exact (mm_u_o _ _ _ _ hcc).trans ((mm_u_o _ _ _ _ hcc).trans hpa) | exact rfl) ?_
  refine gp_pi dX3_run_5 mf_3_21 rfl rfl (by first | rfl | assumption | (simp only [*]; done)) ?_
  refine gp_aload_n dX3_run_8 rfl ?_
  refine gp_iload_n dX3_run_9 rfl ?_
  refine gp_pi dX3_run_10 mf_3_22 rfl rfl (by first | rfl | assumption | (simp only [*]; done)) ?_
  refine gp_aload_n dX3_run_13 rfl ?_
  refine gp_aload_n dX3_run_14 rfl ?_
  refine gp_giv dX3_run_15 mf_3_25 (by decide) (by first | rfl | assumption | (simp only [*]; done)) (by first | exact hkk | exact hpa | exact (mm_u_j _ _ (by decide)).trans ((mm_u_j _ _ (by decide)).trans (mm_u_s _ _ _ _)) | exact (mm_u_o _ _ _ _ hcc).trans ((mm_u_o _ _ _ _ hcc).trans hpa) | exact rfl) ?_
  refine gp_pi dX3_run_18 mf_3_28 rfl rfl (by first | rfl | assumption | (simp only [*]; done)) ?_
  refine gp_aload_n dX3_run_21 rfl ?_
  refine gp_iload_n dX3_run_22 rfl ?_
  refine gp_aload_n dX3_run_23 rfl ?_
  refine gp_giv dX3_run_24 mf_3_21 (by decide) (by first | rfl | assumption | (simp only [*]; done)) (by first | exact hkk | exact hpa | exact (mm_u_j _ _ (by decide)).trans ((mm_u_j _ _ (by decide)).trans (mm_u_s _ _ _ _)) | exact (mm_u_o _ _ _ _ hcc).trans ((mm_u_o _ _ _ _ hcc).trans hpa) | exact rfl) ?_
  refine gp_iload dX3_run_27 rfl ?_
  refine gp_pu (st' := .int (0) :: _) dX3_run_29 rfl ?_
  refine gp_callX (kind := 0) (args := [.ref _, .int _, .int _, .int _, .int _]) (rest := _) dX3_run_30 (Or.inl ⟨rfl, rfl⟩) mk_3_31 (by decide) me_20 rfl rfl rfl rfl rfl rfl (rn_0_1 _ (J := mm_u (mm_u (mm_u J 71 2 1) 71 3 m) 71 4 a) (r := 0) (m := m) (a := a) (k0 := 1) ⟨(mm_u_j _ _ (by decide)).trans ((mm_u_j _ _ (by decide)).trans ((mm_u_j _ _ (by decide)).trans hr1)), (mm_u_j _ _ (by decide)).trans ((mm_u_j _ _ (by decide)).trans (mm_u_s _ _ _ _)), (mm_u_j _ _ (by decide)).trans (mm_u_s _ _ _ _), mm_u_s _ _ _ _⟩ (by decide) (by decide)) ?_
  intro K1 hK1
  rw [hK1]
  refine gp_iret dX3_run_33 rfl ?_
  exact pX.mk rfl rfl

set_option maxHeartbeats 400000 in
theorem ru_1_1 (d : Nat) {cc : Nat} (hcs : mm_sh[cc]? = some (0, 0)) (hcc : cc ≠ 71) {m a x : Int32} (hkk : J cc 0 = 1) (hpa : J cc 1 = a) (hr1 : J 71 1 = nI 0) : cP (d + 6) 15 [.ref 71, .ref cc, .int m, .int 1, .int x] (mm_sh, mm_R, J, L) (pX (some (.int (((x + m) + a) * 2))) L (fun K => K = nls (mm_u (mm_u (mm_u J 71 2 1) 71 3 m) 71 4 a) 0 [11, 20, 10])) := by
  refine cP.of_gP (d := d + 5) me_15 ⟨Nat.le_of_ble_eq_true rfl, rfl⟩ ?_
  show gP mm_cs0 _ _ _ _ _ _ [some (.ref _), some (.ref _), some (.int _), some (.int _), some (.int _)] [] _ _
  refine gp_aload_n dX3_run_0 rfl ?_
  refine gp_aload_n dX3_run_1 rfl ?_
  refine gp_giv dX3_run_2 mf_3_15 (by decide) (by first | rfl | assumption | (simp only [*]; done)) (by first | exact hkk | exact hpa | exact (mm_u_j _ _ (by decide)).trans ((mm_u_j _ _ (by decide)).trans (mm_u_s _ _ _ _)) | exact (mm_u_o _ _ _ _ hcc).trans ((mm_u_o _ _ _ _ hcc).trans hpa) | exact rfl) ?_
  refine gp_pi dX3_run_5 mf_3_21 rfl rfl (by first | rfl | assumption | (simp only [*]; done)) ?_
  refine gp_aload_n dX3_run_8 rfl ?_
  refine gp_iload_n dX3_run_9 rfl ?_
  refine gp_pi dX3_run_10 mf_3_22 rfl rfl (by first | rfl | assumption | (simp only [*]; done)) ?_
  refine gp_aload_n dX3_run_13 rfl ?_
  refine gp_aload_n dX3_run_14 rfl ?_
  refine gp_giv dX3_run_15 mf_3_25 (by decide) (by first | rfl | assumption | (simp only [*]; done)) (by first | exact hkk | exact hpa | exact (mm_u_j _ _ (by decide)).trans ((mm_u_j _ _ (by decide)).trans (mm_u_s _ _ _ _)) | exact (mm_u_o _ _ _ _ hcc).trans ((mm_u_o _ _ _ _ hcc).trans hpa) | exact rfl) ?_
  refine gp_pi dX3_run_18 mf_3_28 rfl rfl (by first | rfl | assumption | (simp only [*]; done)) ?_
  refine gp_aload_n dX3_run_21 rfl ?_
  refine gp_iload_n dX3_run_22 rfl ?_
  refine gp_aload_n dX3_run_23 rfl ?_
  refine gp_giv dX3_run_24 mf_3_21 (by decide) (by first | rfl | assumption | (simp only [*]; done)) (by first | exact hkk | exact hpa | exact (mm_u_j _ _ (by decide)).trans ((mm_u_j _ _ (by decide)).trans (mm_u_s _ _ _ _)) | exact (mm_u_o _ _ _ _ hcc).trans ((mm_u_o _ _ _ _ hcc).trans hpa) | exact rfl) ?_
  refine gp_iload dX3_run_27 rfl ?_
  refine gp_pu (st' := .int (0) :: _) dX3_run_29 rfl ?_
  refine gp_callX (kind := 0) (args := [.ref _, .int _, .int _, .int _, .int _]) (rest := _) dX3_run_30 (Or.inl ⟨rfl, rfl⟩) mk_3_31 (by decide) me_20 rfl rfl rfl rfl rfl rfl (rn_1_1_1 _ (J := mm_u (mm_u (mm_u J 71 2 1) 71 3 m) 71 4 a) (r := 0) (m := m) (a := a) ⟨(mm_u_j _ _ (by decide)).trans ((mm_u_j _ _ (by decide)).trans ((mm_u_j _ _ (by decide)).trans hr1)), (mm_u_j _ _ (by decide)).trans ((mm_u_j _ _ (by decide)).trans (mm_u_s _ _ _ _)), (mm_u_j _ _ (by decide)).trans (mm_u_s _ _ _ _), mm_u_s _ _ _ _⟩ (by decide) (by decide)) ?_
  intro K1 hK1
  rw [hK1]
  refine gp_iret dX3_run_33 rfl ?_
  exact pX.mk rfl rfl

set_option maxHeartbeats 400000 in
theorem ru_1_2 (d : Nat) {cc : Nat} (hcs : mm_sh[cc]? = some (0, 0)) (hcc : cc ≠ 71) {m a x : Int32} (hkk : J cc 0 = 1) (hpa : J cc 1 = a) (hr1 : J 71 1 = nI 0) : cP (d + 7) 15 [.ref 71, .ref cc, .int m, .int 2, .int x] (mm_sh, mm_R, J, L) (pX (some (.int ((((x + m) + a) * 2) ^^^ (((x - a) + m) + a)))) L (fun K => K = nls (mm_u (mm_u (mm_u J 71 2 1) 71 3 m) 71 4 a) 0 [12, 11, 20, 10, 20, 10])) := by
  refine cP.of_gP (d := d + 6) me_15 ⟨Nat.le_of_ble_eq_true rfl, rfl⟩ ?_
  show gP mm_cs0 _ _ _ _ _ _ [some (.ref _), some (.ref _), some (.int _), some (.int _), some (.int _)] [] _ _
  refine gp_aload_n dX3_run_0 rfl ?_
  refine gp_aload_n dX3_run_1 rfl ?_
  refine gp_giv dX3_run_2 mf_3_15 (by decide) (by first | rfl | assumption | (simp only [*]; done)) (by first | exact hkk | exact hpa | exact (mm_u_j _ _ (by decide)).trans ((mm_u_j _ _ (by decide)).trans (mm_u_s _ _ _ _)) | exact (mm_u_o _ _ _ _ hcc).trans ((mm_u_o _ _ _ _ hcc).trans hpa) | exact rfl) ?_
  refine gp_pi dX3_run_5 mf_3_21 rfl rfl (by first | rfl | assumption | (simp only [*]; done)) ?_
  refine gp_aload_n dX3_run_8 rfl ?_
  refine gp_iload_n dX3_run_9 rfl ?_
  refine gp_pi dX3_run_10 mf_3_22 rfl rfl (by first | rfl | assumption | (simp only [*]; done)) ?_
  refine gp_aload_n dX3_run_13 rfl ?_
  refine gp_aload_n dX3_run_14 rfl ?_
  refine gp_giv dX3_run_15 mf_3_25 (by decide) (by first | rfl | assumption | (simp only [*]; done)) (by first | exact hkk | exact hpa | exact (mm_u_j _ _ (by decide)).trans ((mm_u_j _ _ (by decide)).trans (mm_u_s _ _ _ _)) | exact (mm_u_o _ _ _ _ hcc).trans ((mm_u_o _ _ _ _ hcc).trans hpa) | exact rfl) ?_
  refine gp_pi dX3_run_18 mf_3_28 rfl rfl (by first | rfl | assumption | (simp only [*]; done)) ?_
  refine gp_aload_n dX3_run_21 rfl ?_
  refine gp_iload_n dX3_run_22 rfl ?_
  refine gp_aload_n dX3_run_23 rfl ?_
  refine gp_giv dX3_run_24 mf_3_21 (by decide) (by first | rfl | assumption | (simp only [*]; done)) (by first | exact hkk | exact hpa | exact (mm_u_j _ _ (by decide)).trans ((mm_u_j _ _ (by decide)).trans (mm_u_s _ _ _ _)) | exact (mm_u_o _ _ _ _ hcc).trans ((mm_u_o _ _ _ _ hcc).trans hpa) | exact rfl) ?_
  refine gp_iload dX3_run_27 rfl ?_
  refine gp_pu (st' := .int (0) :: _) dX3_run_29 rfl ?_
  refine gp_callX (kind := 0) (args := [.ref _, .int _, .int _, .int _, .int _]) (rest := _) dX3_run_30 (Or.inl ⟨rfl, rfl⟩) mk_3_31 (by decide) me_20 rfl rfl rfl rfl rfl rfl (rn_2_1_1 _ (J := mm_u (mm_u (mm_u J 71 2 1) 71 3 m) 71 4 a) (r := 0) (m := m) (a := a) ⟨(mm_u_j _ _ (by decide)).trans ((mm_u_j _ _ (by decide)).trans ((mm_u_j _ _ (by decide)).trans hr1)), (mm_u_j _ _ (by decide)).trans ((mm_u_j _ _ (by decide)).trans (mm_u_s _ _ _ _)), (mm_u_j _ _ (by decide)).trans (mm_u_s _ _ _ _), mm_u_s _ _ _ _⟩ (by decide) (by decide)) ?_
  intro K1 hK1
  rw [hK1]
  refine gp_iret dX3_run_33 rfl ?_
  exact pX.mk rfl rfl

set_option maxHeartbeats 400000 in
theorem ru_2_0 (d : Nat) {cc : Nat} (hcs : mm_sh[cc]? = some (0, 0)) (hcc : cc ≠ 71) {m a x : Int32} (hkk : J cc 0 = 2) (hpa : J cc 1 = a) (hr1 : J 71 1 = nI 0) : cP (d + 4) 15 [.ref 71, .ref cc, .int m, .int 0, .int x] (mm_sh, mm_R, J, L) (pX (some (.int (x + m))) L (fun K => K = nls (mm_u (mm_u (mm_u J 71 2 2) 71 3 m) 71 4 a) 0 [10])) := by
  refine cP.of_gP (d := d + 3) me_15 ⟨Nat.le_of_ble_eq_true rfl, rfl⟩ ?_
  show gP mm_cs0 _ _ _ _ _ _ [some (.ref _), some (.ref _), some (.int _), some (.int _), some (.int _)] [] _ _
  refine gp_aload_n dX3_run_0 rfl ?_
  refine gp_aload_n dX3_run_1 rfl ?_
  refine gp_giv dX3_run_2 mf_3_15 (by decide) (by first | rfl | assumption | (simp only [*]; done)) (by first | exact hkk | exact hpa | exact (mm_u_j _ _ (by decide)).trans ((mm_u_j _ _ (by decide)).trans (mm_u_s _ _ _ _)) | exact (mm_u_o _ _ _ _ hcc).trans ((mm_u_o _ _ _ _ hcc).trans hpa) | exact rfl) ?_
  refine gp_pi dX3_run_5 mf_3_21 rfl rfl (by first | rfl | assumption | (simp only [*]; done)) ?_
  refine gp_aload_n dX3_run_8 rfl ?_
  refine gp_iload_n dX3_run_9 rfl ?_
  refine gp_pi dX3_run_10 mf_3_22 rfl rfl (by first | rfl | assumption | (simp only [*]; done)) ?_
  refine gp_aload_n dX3_run_13 rfl ?_
  refine gp_aload_n dX3_run_14 rfl ?_
  refine gp_giv dX3_run_15 mf_3_25 (by decide) (by first | rfl | assumption | (simp only [*]; done)) (by first | exact hkk | exact hpa | exact (mm_u_j _ _ (by decide)).trans ((mm_u_j _ _ (by decide)).trans (mm_u_s _ _ _ _)) | exact (mm_u_o _ _ _ _ hcc).trans ((mm_u_o _ _ _ _ hcc).trans hpa) | exact rfl) ?_
  refine gp_pi dX3_run_18 mf_3_28 rfl rfl (by first | rfl | assumption | (simp only [*]; done)) ?_
  refine gp_aload_n dX3_run_21 rfl ?_
  refine gp_iload_n dX3_run_22 rfl ?_
  refine gp_aload_n dX3_run_23 rfl ?_
  refine gp_giv dX3_run_24 mf_3_21 (by decide) (by first | rfl | assumption | (simp only [*]; done)) (by first | exact hkk | exact hpa | exact (mm_u_j _ _ (by decide)).trans ((mm_u_j _ _ (by decide)).trans (mm_u_s _ _ _ _)) | exact (mm_u_o _ _ _ _ hcc).trans ((mm_u_o _ _ _ _ hcc).trans hpa) | exact rfl) ?_
  refine gp_iload dX3_run_27 rfl ?_
  refine gp_pu (st' := .int (0) :: _) dX3_run_29 rfl ?_
  refine gp_callX (kind := 0) (args := [.ref _, .int _, .int _, .int _, .int _]) (rest := _) dX3_run_30 (Or.inl ⟨rfl, rfl⟩) mk_3_31 (by decide) me_20 rfl rfl rfl rfl rfl rfl (rn_0_2 _ (J := mm_u (mm_u (mm_u J 71 2 2) 71 3 m) 71 4 a) (r := 0) (m := m) (a := a) (k0 := 2) ⟨(mm_u_j _ _ (by decide)).trans ((mm_u_j _ _ (by decide)).trans ((mm_u_j _ _ (by decide)).trans hr1)), (mm_u_j _ _ (by decide)).trans ((mm_u_j _ _ (by decide)).trans (mm_u_s _ _ _ _)), (mm_u_j _ _ (by decide)).trans (mm_u_s _ _ _ _), mm_u_s _ _ _ _⟩ (by decide) (by decide)) ?_
  intro K1 hK1
  rw [hK1]
  refine gp_iret dX3_run_33 rfl ?_
  exact pX.mk rfl rfl

set_option maxHeartbeats 400000 in
theorem ru_2_1 (d : Nat) {cc : Nat} (hcs : mm_sh[cc]? = some (0, 0)) (hcc : cc ≠ 71) {m a x : Int32} (hkk : J cc 0 = 2) (hpa : J cc 1 = a) (hr1 : J 71 1 = nI 0) : cP (d + 6) 15 [.ref 71, .ref cc, .int m, .int 1, .int x] (mm_sh, mm_R, J, L) (pX (some (.int (((x + m) * 2) * 3))) L (fun K => K = nls (mm_u (mm_u (mm_u J 71 2 2) 71 3 m) 71 4 a) 0 [30, 11, 10])) := by
  refine cP.of_gP (d := d + 5) me_15 ⟨Nat.le_of_ble_eq_true rfl, rfl⟩ ?_
  show gP mm_cs0 _ _ _ _ _ _ [some (.ref _), some (.ref _), some (.int _), some (.int _), some (.int _)] [] _ _
  refine gp_aload_n dX3_run_0 rfl ?_
  refine gp_aload_n dX3_run_1 rfl ?_
  refine gp_giv dX3_run_2 mf_3_15 (by decide) (by first | rfl | assumption | (simp only [*]; done)) (by first | exact hkk | exact hpa | exact (mm_u_j _ _ (by decide)).trans ((mm_u_j _ _ (by decide)).trans (mm_u_s _ _ _ _)) | exact (mm_u_o _ _ _ _ hcc).trans ((mm_u_o _ _ _ _ hcc).trans hpa) | exact rfl) ?_
  refine gp_pi dX3_run_5 mf_3_21 rfl rfl (by first | rfl | assumption | (simp only [*]; done)) ?_
  refine gp_aload_n dX3_run_8 rfl ?_
  refine gp_iload_n dX3_run_9 rfl ?_
  refine gp_pi dX3_run_10 mf_3_22 rfl rfl (by first | rfl | assumption | (simp only [*]; done)) ?_
  refine gp_aload_n dX3_run_13 rfl ?_
  refine gp_aload_n dX3_run_14 rfl ?_
  refine gp_giv dX3_run_15 mf_3_25 (by decide) (by first | rfl | assumption | (simp only [*]; done)) (by first | exact hkk | exact hpa | exact (mm_u_j _ _ (by decide)).trans ((mm_u_j _ _ (by decide)).trans (mm_u_s _ _ _ _)) | exact (mm_u_o _ _ _ _ hcc).trans ((mm_u_o _ _ _ _ hcc).trans hpa) | exact rfl) ?_
  refine gp_pi dX3_run_18 mf_3_28 rfl rfl (by first | rfl | assumption | (simp only [*]; done)) ?_
  refine gp_aload_n dX3_run_21 rfl ?_
  refine gp_iload_n dX3_run_22 rfl ?_
  refine gp_aload_n dX3_run_23 rfl ?_
  refine gp_giv dX3_run_24 mf_3_21 (by decide) (by first | rfl | assumption | (simp only [*]; done)) (by first | exact hkk | exact hpa | exact (mm_u_j _ _ (by decide)).trans ((mm_u_j _ _ (by decide)).trans (mm_u_s _ _ _ _)) | exact (mm_u_o _ _ _ _ hcc).trans ((mm_u_o _ _ _ _ hcc).trans hpa) | exact rfl) ?_
  refine gp_iload dX3_run_27 rfl ?_
  refine gp_pu (st' := .int (0) :: _) dX3_run_29 rfl ?_
  refine gp_callX (kind := 0) (args := [.ref _, .int _, .int _, .int _, .int _]) (rest := _) dX3_run_30 (Or.inl ⟨rfl, rfl⟩) mk_3_31 (by decide) me_20 rfl rfl rfl rfl rfl rfl (rn_1_2_2 _ (J := mm_u (mm_u (mm_u J 71 2 2) 71 3 m) 71 4 a) (r := 0) (m := m) (a := a) ⟨(mm_u_j _ _ (by decide)).trans ((mm_u_j _ _ (by decide)).trans ((mm_u_j _ _ (by decide)).trans hr1)), (mm_u_j _ _ (by decide)).trans ((mm_u_j _ _ (by decide)).trans (mm_u_s _ _ _ _)), (mm_u_j _ _ (by decide)).trans (mm_u_s _ _ _ _), mm_u_s _ _ _ _⟩ (by decide) (by decide)) ?_
  intro K1 hK1
  rw [hK1]
  refine gp_iret dX3_run_33 rfl ?_
  exact pX.mk rfl rfl

set_option maxHeartbeats 400000 in
theorem ru_2_2 (d : Nat) {cc : Nat} (hcs : mm_sh[cc]? = some (0, 0)) (hcc : cc ≠ 71) {m a x : Int32} (hkk : J cc 0 = 2) (hpa : J cc 1 = a) (hr1 : J 71 1 = nI 0) : cP (d + 7) 15 [.ref 71, .ref cc, .int m, .int 2, .int x] (mm_sh, mm_R, J, L) (pX (some (.int ((((x + m) * 2) * 3) ^^^ ((x - a) + m)))) L (fun K => K = nls (mm_u (mm_u (mm_u J 71 2 2) 71 3 m) 71 4 a) 0 [12, 30, 11, 10, 10])) := by
  refine cP.of_gP (d := d + 6) me_15 ⟨Nat.le_of_ble_eq_true rfl, rfl⟩ ?_
  show gP mm_cs0 _ _ _ _ _ _ [some (.ref _), some (.ref _), some (.int _), some (.int _), some (.int _)] [] _ _
  refine gp_aload_n dX3_run_0 rfl ?_
  refine gp_aload_n dX3_run_1 rfl ?_
  refine gp_giv dX3_run_2 mf_3_15 (by decide) (by first | rfl | assumption | (simp only [*]; done)) (by first | exact hkk | exact hpa | exact (mm_u_j _ _ (by decide)).trans ((mm_u_j _ _ (by decide)).trans (mm_u_s _ _ _ _)) | exact (mm_u_o _ _ _ _ hcc).trans ((mm_u_o _ _ _ _ hcc).trans hpa) | exact rfl) ?_
  refine gp_pi dX3_run_5 mf_3_21 rfl rfl (by first | rfl | assumption | (simp only [*]; done)) ?_
  refine gp_aload_n dX3_run_8 rfl ?_
  refine gp_iload_n dX3_run_9 rfl ?_
  refine gp_pi dX3_run_10 mf_3_22 rfl rfl (by first | rfl | assumption | (simp only [*]; done)) ?_
  refine gp_aload_n dX3_run_13 rfl ?_
  refine gp_aload_n dX3_run_14 rfl ?_
  refine gp_giv dX3_run_15 mf_3_25 (by decide) (by first | rfl | assumption | (simp only [*]; done)) (by first | exact hkk | exact hpa | exact (mm_u_j _ _ (by decide)).trans ((mm_u_j _ _ (by decide)).trans (mm_u_s _ _ _ _)) | exact (mm_u_o _ _ _ _ hcc).trans ((mm_u_o _ _ _ _ hcc).trans hpa) | exact rfl) ?_
  refine gp_pi dX3_run_18 mf_3_28 rfl rfl (by first | rfl | assumption | (simp only [*]; done)) ?_
  refine gp_aload_n dX3_run_21 rfl ?_
  refine gp_iload_n dX3_run_22 rfl ?_
  refine gp_aload_n dX3_run_23 rfl ?_
  refine gp_giv dX3_run_24 mf_3_21 (by decide) (by first | rfl | assumption | (simp only [*]; done)) (by first | exact hkk | exact hpa | exact (mm_u_j _ _ (by decide)).trans ((mm_u_j _ _ (by decide)).trans (mm_u_s _ _ _ _)) | exact (mm_u_o _ _ _ _ hcc).trans ((mm_u_o _ _ _ _ hcc).trans hpa) | exact rfl) ?_
  refine gp_iload dX3_run_27 rfl ?_
  refine gp_pu (st' := .int (0) :: _) dX3_run_29 rfl ?_
  refine gp_callX (kind := 0) (args := [.ref _, .int _, .int _, .int _, .int _]) (rest := _) dX3_run_30 (Or.inl ⟨rfl, rfl⟩) mk_3_31 (by decide) me_20 rfl rfl rfl rfl rfl rfl (rn_2_2_2 _ (J := mm_u (mm_u (mm_u J 71 2 2) 71 3 m) 71 4 a) (r := 0) (m := m) (a := a) ⟨(mm_u_j _ _ (by decide)).trans ((mm_u_j _ _ (by decide)).trans ((mm_u_j _ _ (by decide)).trans hr1)), (mm_u_j _ _ (by decide)).trans ((mm_u_j _ _ (by decide)).trans (mm_u_s _ _ _ _)), (mm_u_j _ _ (by decide)).trans (mm_u_s _ _ _ _), mm_u_s _ _ _ _⟩ (by decide) (by decide)) ?_
  intro K1 hK1
  rw [hK1]
  refine gp_iret dX3_run_33 rfl ?_
  exact pX.mk rfl rfl

set_option maxHeartbeats 400000 in
theorem ru_3_0 (d : Nat) {cc : Nat} (hcs : mm_sh[cc]? = some (0, 0)) (hcc : cc ≠ 71) {m a x : Int32} (hkk : J cc 0 = 3) (hpa : J cc 1 = a) (hr1 : J 71 1 = nI 0) : cP (d + 5) 15 [.ref 71, .ref cc, .int m, .int 0, .int x] (mm_sh, mm_R, J, L) (pX (some (.int ((x + m) + a))) L (fun K => K = nls (mm_u (mm_u (mm_u J 71 2 3) 71 3 m) 71 4 a) 0 [20, 10])) := by
  refine cP.of_gP (d := d + 4) me_15 ⟨Nat.le_of_ble_eq_true rfl, rfl⟩ ?_
  show gP mm_cs0 _ _ _ _ _ _ [some (.ref _), some (.ref _), some (.int _), some (.int _), some (.int _)] [] _ _
  refine gp_aload_n dX3_run_0 rfl ?_
  refine gp_aload_n dX3_run_1 rfl ?_
  refine gp_giv dX3_run_2 mf_3_15 (by decide) (by first | rfl | assumption | (simp only [*]; done)) (by first | exact hkk | exact hpa | exact (mm_u_j _ _ (by decide)).trans ((mm_u_j _ _ (by decide)).trans (mm_u_s _ _ _ _)) | exact (mm_u_o _ _ _ _ hcc).trans ((mm_u_o _ _ _ _ hcc).trans hpa) | exact rfl) ?_
  refine gp_pi dX3_run_5 mf_3_21 rfl rfl (by first | rfl | assumption | (simp only [*]; done)) ?_
  refine gp_aload_n dX3_run_8 rfl ?_
  refine gp_iload_n dX3_run_9 rfl ?_
  refine gp_pi dX3_run_10 mf_3_22 rfl rfl (by first | rfl | assumption | (simp only [*]; done)) ?_
  refine gp_aload_n dX3_run_13 rfl ?_
  refine gp_aload_n dX3_run_14 rfl ?_
  refine gp_giv dX3_run_15 mf_3_25 (by decide) (by first | rfl | assumption | (simp only [*]; done)) (by first | exact hkk | exact hpa | exact (mm_u_j _ _ (by decide)).trans ((mm_u_j _ _ (by decide)).trans (mm_u_s _ _ _ _)) | exact (mm_u_o _ _ _ _ hcc).trans ((mm_u_o _ _ _ _ hcc).trans hpa) | exact rfl) ?_
  refine gp_pi dX3_run_18 mf_3_28 rfl rfl (by first | rfl | assumption | (simp only [*]; done)) ?_
  refine gp_aload_n dX3_run_21 rfl ?_
  refine gp_iload_n dX3_run_22 rfl ?_
  refine gp_aload_n dX3_run_23 rfl ?_
  refine gp_giv dX3_run_24 mf_3_21 (by decide) (by first | rfl | assumption | (simp only [*]; done)) (by first | exact hkk | exact hpa | exact (mm_u_j _ _ (by decide)).trans ((mm_u_j _ _ (by decide)).trans (mm_u_s _ _ _ _)) | exact (mm_u_o _ _ _ _ hcc).trans ((mm_u_o _ _ _ _ hcc).trans hpa) | exact rfl) ?_
  refine gp_iload dX3_run_27 rfl ?_
  refine gp_pu (st' := .int (0) :: _) dX3_run_29 rfl ?_
  refine gp_callX (kind := 0) (args := [.ref _, .int _, .int _, .int _, .int _]) (rest := _) dX3_run_30 (Or.inl ⟨rfl, rfl⟩) mk_3_31 (by decide) me_20 rfl rfl rfl rfl rfl rfl (rn_0_3 _ (J := mm_u (mm_u (mm_u J 71 2 3) 71 3 m) 71 4 a) (r := 0) (m := m) (a := a) (k0 := 3) ⟨(mm_u_j _ _ (by decide)).trans ((mm_u_j _ _ (by decide)).trans ((mm_u_j _ _ (by decide)).trans hr1)), (mm_u_j _ _ (by decide)).trans ((mm_u_j _ _ (by decide)).trans (mm_u_s _ _ _ _)), (mm_u_j _ _ (by decide)).trans (mm_u_s _ _ _ _), mm_u_s _ _ _ _⟩ (by decide) (by decide)) ?_
  intro K1 hK1
  rw [hK1]
  refine gp_iret dX3_run_33 rfl ?_
  exact pX.mk rfl rfl

set_option maxHeartbeats 400000 in
theorem ru_3_1 (d : Nat) {cc : Nat} (hcs : mm_sh[cc]? = some (0, 0)) (hcc : cc ≠ 71) {m a x : Int32} (hkk : J cc 0 = 3) (hpa : J cc 1 = a) (hr1 : J 71 1 = nI 0) : cP (d + 7) 15 [.ref 71, .ref cc, .int m, .int 1, .int x] (mm_sh, mm_R, J, L) (pX (some (.int ((((x + 1) + m) + a) * 2))) L (fun K => K = nls (mm_u (mm_u (mm_u J 71 2 3) 71 3 m) 71 4 a) 0 [40, 11, 20, 10])) := by
  refine cP.of_gP (d := d + 6) me_15 ⟨Nat.le_of_ble_eq_true rfl, rfl⟩ ?_
  show gP mm_cs0 _ _ _ _ _ _ [some (.ref _), some (.ref _), some (.int _), some (.int _), some (.int _)] [] _ _
  refine gp_aload_n dX3_run_0 rfl ?_
  refine gp_aload_n dX3_run_1 rfl ?_
  refine gp_giv dX3_run_2 mf_3_15 (by decide) (by first | rfl | assumption | (simp only [*]; done)) (by first | exact hkk | exact hpa | exact (mm_u_j _ _ (by decide)).trans ((mm_u_j _ _ (by decide)).trans (mm_u_s _ _ _ _)) | exact (mm_u_o _ _ _ _ hcc).trans ((mm_u_o _ _ _ _ hcc).trans hpa) | exact rfl) ?_
  refine gp_pi dX3_run_5 mf_3_21 rfl rfl (by first | rfl | assumption | (simp only [*]; done)) ?_
  refine gp_aload_n dX3_run_8 rfl ?_
  refine gp_iload_n dX3_run_9 rfl ?_
  refine gp_pi dX3_run_10 mf_3_22 rfl rfl (by first | rfl | assumption | (simp only [*]; done)) ?_
  refine gp_aload_n dX3_run_13 rfl ?_
  refine gp_aload_n dX3_run_14 rfl ?_
  refine gp_giv dX3_run_15 mf_3_25 (by decide) (by first | rfl | assumption | (simp only [*]; done)) (by first | exact hkk | exact hpa | exact (mm_u_j _ _ (by decide)).trans ((mm_u_j _ _ (by decide)).trans (mm_u_s _ _ _ _)) | exact (mm_u_o _ _ _ _ hcc).trans ((mm_u_o _ _ _ _ hcc).trans hpa) | exact rfl) ?_
  refine gp_pi dX3_run_18 mf_3_28 rfl rfl (by first | rfl | assumption | (simp only [*]; done)) ?_
  refine gp_aload_n dX3_run_21 rfl ?_
  refine gp_iload_n dX3_run_22 rfl ?_
  refine gp_aload_n dX3_run_23 rfl ?_
  refine gp_giv dX3_run_24 mf_3_21 (by decide) (by first | rfl | assumption | (simp only [*]; done)) (by first | exact hkk | exact hpa | exact (mm_u_j _ _ (by decide)).trans ((mm_u_j _ _ (by decide)).trans (mm_u_s _ _ _ _)) | exact (mm_u_o _ _ _ _ hcc).trans ((mm_u_o _ _ _ _ hcc).trans hpa) | exact rfl) ?_
  refine gp_iload dX3_run_27 rfl ?_
  refine gp_pu (st' := .int (0) :: _) dX3_run_29 rfl ?_
  refine gp_callX (kind := 0) (args := [.ref _, .int _, .int _, .int _, .int _]) (rest := _) dX3_run_30 (Or.inl ⟨rfl, rfl⟩) mk_3_31 (by decide) me_20 rfl rfl rfl rfl rfl rfl (rn_1_3_3 _ (J := mm_u (mm_u (mm_u J 71 2 3) 71 3 m) 71 4 a) (r := 0) (m := m) (a := a) ⟨(mm_u_j _ _ (by decide)).trans ((mm_u_j _ _ (by decide)).trans ((mm_u_j _ _ (by decide)).trans hr1)), (mm_u_j _ _ (by decide)).trans ((mm_u_j _ _ (by decide)).trans (mm_u_s _ _ _ _)), (mm_u_j _ _ (by decide)).trans (mm_u_s _ _ _ _), mm_u_s _ _ _ _⟩ (by decide) (by decide)) ?_
  intro K1 hK1
  rw [hK1]
  refine gp_iret dX3_run_33 rfl ?_
  exact pX.mk rfl rfl

set_option maxHeartbeats 400000 in
theorem ru_3_2 (d : Nat) {cc : Nat} (hcs : mm_sh[cc]? = some (0, 0)) (hcc : cc ≠ 71) {m a x : Int32} (hkk : J cc 0 = 3) (hpa : J cc 1 = a) (hr1 : J 71 1 = nI 0) : cP (d + 8) 15 [.ref 71, .ref cc, .int m, .int 2, .int x] (mm_sh, mm_R, J, L) (pX (some (.int (((((x + 1) + m) + a) * 2) ^^^ (((x - a) + m) + a)))) L (fun K => K = nls (mm_u (mm_u (mm_u J 71 2 3) 71 3 m) 71 4 a) 0 [12, 40, 11, 20, 10, 20, 10])) := by
  refine cP.of_gP (d := d + 7) me_15 ⟨Nat.le_of_ble_eq_true rfl, rfl⟩ ?_
  show gP mm_cs0 _ _ _ _ _ _ [some (.ref _), some (.ref _), some (.int _), some (.int _), some (.int _)] [] _ _
  refine gp_aload_n dX3_run_0 rfl ?_
  refine gp_aload_n dX3_run_1 rfl ?_
  refine gp_giv dX3_run_2 mf_3_15 (by decide) (by first | rfl | assumption | (simp only [*]; done)) (by first | exact hkk | exact hpa | exact (mm_u_j _ _ (by decide)).trans ((mm_u_j _ _ (by decide)).trans (mm_u_s _ _ _ _)) | exact (mm_u_o _ _ _ _ hcc).trans ((mm_u_o _ _ _ _ hcc).trans hpa) | exact rfl) ?_
  refine gp_pi dX3_run_5 mf_3_21 rfl rfl (by first | rfl | assumption | (simp only [*]; done)) ?_
  refine gp_aload_n dX3_run_8 rfl ?_
  refine gp_iload_n dX3_run_9 rfl ?_
  refine gp_pi dX3_run_10 mf_3_22 rfl rfl (by first | rfl | assumption | (simp only [*]; done)) ?_
  refine gp_aload_n dX3_run_13 rfl ?_
  refine gp_aload_n dX3_run_14 rfl ?_
  refine gp_giv dX3_run_15 mf_3_25 (by decide) (by first | rfl | assumption | (simp only [*]; done)) (by first | exact hkk | exact hpa | exact (mm_u_j _ _ (by decide)).trans ((mm_u_j _ _ (by decide)).trans (mm_u_s _ _ _ _)) | exact (mm_u_o _ _ _ _ hcc).trans ((mm_u_o _ _ _ _ hcc).trans hpa) | exact rfl) ?_
  refine gp_pi dX3_run_18 mf_3_28 rfl rfl (by first | rfl | assumption | (simp only [*]; done)) ?_
  refine gp_aload_n dX3_run_21 rfl ?_
  refine gp_iload_n dX3_run_22 rfl ?_
  refine gp_aload_n dX3_run_23 rfl ?_
  refine gp_giv dX3_run_24 mf_3_21 (by decide) (by first | rfl | assumption | (simp only [*]; done)) (by first | exact hkk | exact hpa | exact (mm_u_j _ _ (by decide)).trans ((mm_u_j _ _ (by decide)).trans (mm_u_s _ _ _ _)) | exact (mm_u_o _ _ _ _ hcc).trans ((mm_u_o _ _ _ _ hcc).trans hpa) | exact rfl) ?_
  refine gp_iload dX3_run_27 rfl ?_
  refine gp_pu (st' := .int (0) :: _) dX3_run_29 rfl ?_
  refine gp_callX (kind := 0) (args := [.ref _, .int _, .int _, .int _, .int _]) (rest := _) dX3_run_30 (Or.inl ⟨rfl, rfl⟩) mk_3_31 (by decide) me_20 rfl rfl rfl rfl rfl rfl (rn_2_3_3 _ (J := mm_u (mm_u (mm_u J 71 2 3) 71 3 m) 71 4 a) (r := 0) (m := m) (a := a) ⟨(mm_u_j _ _ (by decide)).trans ((mm_u_j _ _ (by decide)).trans ((mm_u_j _ _ (by decide)).trans hr1)), (mm_u_j _ _ (by decide)).trans ((mm_u_j _ _ (by decide)).trans (mm_u_s _ _ _ _)), (mm_u_j _ _ (by decide)).trans (mm_u_s _ _ _ _), mm_u_s _ _ _ _⟩ (by decide) (by decide)) ?_
  intro K1 hK1
  rw [hK1]
  refine gp_iret dX3_run_33 rfl ?_
  exact pX.mk rfl rfl

set_option maxHeartbeats 400000 in
theorem ru_4_0 (d : Nat) {cc : Nat} (hcs : mm_sh[cc]? = some (0, 0)) (hcc : cc ≠ 71) {m a x : Int32} (hkk : J cc 0 = 4) (hpa : J cc 1 = a) (hr1 : J 71 1 = nI 0) : cP (d + 5) 15 [.ref 71, .ref cc, .int m, .int 0, .int x] (mm_sh, mm_R, J, L) (pX (some (.int ((x + m) - m))) L (fun K => K = nls (mm_u (mm_u (mm_u J 71 2 4) 71 3 m) 71 4 a) 0 [51, 10])) := by
  refine cP.of_gP (d := d + 4) me_15 ⟨Nat.le_of_ble_eq_true rfl, rfl⟩ ?_
  show gP mm_cs0 _ _ _ _ _ _ [some (.ref _), some (.ref _), some (.int _), some (.int _), some (.int _)] [] _ _
  refine gp_aload_n dX3_run_0 rfl ?_
  refine gp_aload_n dX3_run_1 rfl ?_
  refine gp_giv dX3_run_2 mf_3_15 (by decide) (by first | rfl | assumption | (simp only [*]; done)) (by first | exact hkk | exact hpa | exact (mm_u_j _ _ (by decide)).trans ((mm_u_j _ _ (by decide)).trans (mm_u_s _ _ _ _)) | exact (mm_u_o _ _ _ _ hcc).trans ((mm_u_o _ _ _ _ hcc).trans hpa) | exact rfl) ?_
  refine gp_pi dX3_run_5 mf_3_21 rfl rfl (by first | rfl | assumption | (simp only [*]; done)) ?_
  refine gp_aload_n dX3_run_8 rfl ?_
  refine gp_iload_n dX3_run_9 rfl ?_
  refine gp_pi dX3_run_10 mf_3_22 rfl rfl (by first | rfl | assumption | (simp only [*]; done)) ?_
  refine gp_aload_n dX3_run_13 rfl ?_
  refine gp_aload_n dX3_run_14 rfl ?_
  refine gp_giv dX3_run_15 mf_3_25 (by decide) (by first | rfl | assumption | (simp only [*]; done)) (by first | exact hkk | exact hpa | exact (mm_u_j _ _ (by decide)).trans ((mm_u_j _ _ (by decide)).trans (mm_u_s _ _ _ _)) | exact (mm_u_o _ _ _ _ hcc).trans ((mm_u_o _ _ _ _ hcc).trans hpa) | exact rfl) ?_
  refine gp_pi dX3_run_18 mf_3_28 rfl rfl (by first | rfl | assumption | (simp only [*]; done)) ?_
  refine gp_aload_n dX3_run_21 rfl ?_
  refine gp_iload_n dX3_run_22 rfl ?_
  refine gp_aload_n dX3_run_23 rfl ?_
  refine gp_giv dX3_run_24 mf_3_21 (by decide) (by first | rfl | assumption | (simp only [*]; done)) (by first | exact hkk | exact hpa | exact (mm_u_j _ _ (by decide)).trans ((mm_u_j _ _ (by decide)).trans (mm_u_s _ _ _ _)) | exact (mm_u_o _ _ _ _ hcc).trans ((mm_u_o _ _ _ _ hcc).trans hpa) | exact rfl) ?_
  refine gp_iload dX3_run_27 rfl ?_
  refine gp_pu (st' := .int (0) :: _) dX3_run_29 rfl ?_
  refine gp_callX (kind := 0) (args := [.ref _, .int _, .int _, .int _, .int _]) (rest := _) dX3_run_30 (Or.inl ⟨rfl, rfl⟩) mk_3_31 (by decide) me_20 rfl rfl rfl rfl rfl rfl (rn_0_4 _ (J := mm_u (mm_u (mm_u J 71 2 4) 71 3 m) 71 4 a) (r := 0) (m := m) (a := a) (k0 := 4) ⟨(mm_u_j _ _ (by decide)).trans ((mm_u_j _ _ (by decide)).trans ((mm_u_j _ _ (by decide)).trans hr1)), (mm_u_j _ _ (by decide)).trans ((mm_u_j _ _ (by decide)).trans (mm_u_s _ _ _ _)), (mm_u_j _ _ (by decide)).trans (mm_u_s _ _ _ _), mm_u_s _ _ _ _⟩ (by decide) (by decide)) ?_
  intro K1 hK1
  rw [hK1]
  refine gp_iret dX3_run_33 rfl ?_
  exact pX.mk rfl rfl

set_option maxHeartbeats 400000 in
theorem ru_4_1 (d : Nat) {cc : Nat} (hcs : mm_sh[cc]? = some (0, 0)) (hcc : cc ≠ 71) {m a x : Int32} (hkk : J cc 0 = 4) (hpa : J cc 1 = a) (hr1 : J 71 1 = nI 0) : cP (d + 6) 15 [.ref 71, .ref cc, .int m, .int 1, .int x] (mm_sh, mm_R, J, L) (pX (some (.int (((x + m) - m) * 2))) L (fun K => K = nls (mm_u (mm_u (mm_u J 71 2 4) 71 3 m) 71 4 a) 0 [11, 51, 10])) := by
  refine cP.of_gP (d := d + 5) me_15 ⟨Nat.le_of_ble_eq_true rfl, rfl⟩ ?_
  show gP mm_cs0 _ _ _ _ _ _ [some (.ref _), some (.ref _), some (.int _), some (.int _), some (.int _)] [] _ _
  refine gp_aload_n dX3_run_0 rfl ?_
  refine gp_aload_n dX3_run_1 rfl ?_
  refine gp_giv dX3_run_2 mf_3_15 (by decide) (by first | rfl | assumption | (simp only [*]; done)) (by first | exact hkk | exact hpa | exact (mm_u_j _ _ (by decide)).trans ((mm_u_j _ _ (by decide)).trans (mm_u_s _ _ _ _)) | exact (mm_u_o _ _ _ _ hcc).trans ((mm_u_o _ _ _ _ hcc).trans hpa) | exact rfl) ?_
  refine gp_pi dX3_run_5 mf_3_21 rfl rfl (by first | rfl | assumption | (simp only [*]; done)) ?_
  refine gp_aload_n dX3_run_8 rfl ?_
  refine gp_iload_n dX3_run_9 rfl ?_
  refine gp_pi dX3_run_10 mf_3_22 rfl rfl (by first | rfl | assumption | (simp only [*]; done)) ?_
  refine gp_aload_n dX3_run_13 rfl ?_
  refine gp_aload_n dX3_run_14 rfl ?_
  refine gp_giv dX3_run_15 mf_3_25 (by decide) (by first | rfl | assumption | (simp only [*]; done)) (by first | exact hkk | exact hpa | exact (mm_u_j _ _ (by decide)).trans ((mm_u_j _ _ (by decide)).trans (mm_u_s _ _ _ _)) | exact (mm_u_o _ _ _ _ hcc).trans ((mm_u_o _ _ _ _ hcc).trans hpa) | exact rfl) ?_
  refine gp_pi dX3_run_18 mf_3_28 rfl rfl (by first | rfl | assumption | (simp only [*]; done)) ?_
  refine gp_aload_n dX3_run_21 rfl ?_
  refine gp_iload_n dX3_run_22 rfl ?_
  refine gp_aload_n dX3_run_23 rfl ?_
  refine gp_giv dX3_run_24 mf_3_21 (by decide) (by first | rfl | assumption | (simp only [*]; done)) (by first | exact hkk | exact hpa | exact (mm_u_j _ _ (by decide)).trans ((mm_u_j _ _ (by decide)).trans (mm_u_s _ _ _ _)) | exact (mm_u_o _ _ _ _ hcc).trans ((mm_u_o _ _ _ _ hcc).trans hpa) | exact rfl) ?_
  refine gp_iload dX3_run_27 rfl ?_
  refine gp_pu (st' := .int (0) :: _) dX3_run_29 rfl ?_
  refine gp_callX (kind := 0) (args := [.ref _, .int _, .int _, .int _, .int _]) (rest := _) dX3_run_30 (Or.inl ⟨rfl, rfl⟩) mk_3_31 (by decide) me_20 rfl rfl rfl rfl rfl rfl (rn_1_4_4 _ (J := mm_u (mm_u (mm_u J 71 2 4) 71 3 m) 71 4 a) (r := 0) (m := m) (a := a) ⟨(mm_u_j _ _ (by decide)).trans ((mm_u_j _ _ (by decide)).trans ((mm_u_j _ _ (by decide)).trans hr1)), (mm_u_j _ _ (by decide)).trans ((mm_u_j _ _ (by decide)).trans (mm_u_s _ _ _ _)), (mm_u_j _ _ (by decide)).trans (mm_u_s _ _ _ _), mm_u_s _ _ _ _⟩ (by decide) (by decide)) ?_
  intro K1 hK1
  rw [hK1]
  refine gp_iret dX3_run_33 rfl ?_
  exact pX.mk rfl rfl

set_option maxHeartbeats 400000 in
theorem ru_4_2 (d : Nat) {cc : Nat} (hcs : mm_sh[cc]? = some (0, 0)) (hcc : cc ≠ 71) {m a x : Int32} (hkk : J cc 0 = 4) (hpa : J cc 1 = a) (hr1 : J 71 1 = nI 0) : cP (d + 8) 15 [.ref 71, .ref cc, .int m, .int 2, .int x] (mm_sh, mm_R, J, L) (pX (some (.int (-((((x + m) - m) * 2) ^^^ (((x - a) + m) - m))))) L (fun K => K = nls (mm_u (mm_u (mm_u J 71 2 4) 71 3 m) 71 4 a) 0 [50, 12, 11, 51, 10, 51, 10])) := by
  refine cP.of_gP (d := d + 7) me_15 ⟨Nat.le_of_ble_eq_true rfl, rfl⟩ ?_
  show gP mm_cs0 _ _ _ _ _ _ [some (.ref _), some (.ref _), some (.int _), some (.int _), some (.int _)] [] _ _
  refine gp_aload_n dX3_run_0 rfl ?_
  refine gp_aload_n dX3_run_1 rfl ?_
  refine gp_giv dX3_run_2 mf_3_15 (by decide) (by first | rfl | assumption | (simp only [*]; done)) (by first | exact hkk | exact hpa | exact (mm_u_j _ _ (by decide)).trans ((mm_u_j _ _ (by decide)).trans (mm_u_s _ _ _ _)) | exact (mm_u_o _ _ _ _ hcc).trans ((mm_u_o _ _ _ _ hcc).trans hpa) | exact rfl) ?_
  refine gp_pi dX3_run_5 mf_3_21 rfl rfl (by first | rfl | assumption | (simp only [*]; done)) ?_
  refine gp_aload_n dX3_run_8 rfl ?_
  refine gp_iload_n dX3_run_9 rfl ?_
  refine gp_pi dX3_run_10 mf_3_22 rfl rfl (by first | rfl | assumption | (simp only [*]; done)) ?_
  refine gp_aload_n dX3_run_13 rfl ?_
  refine gp_aload_n dX3_run_14 rfl ?_
  refine gp_giv dX3_run_15 mf_3_25 (by decide) (by first | rfl | assumption | (simp only [*]; done)) (by first | exact hkk | exact hpa | exact (mm_u_j _ _ (by decide)).trans ((mm_u_j _ _ (by decide)).trans (mm_u_s _ _ _ _)) | exact (mm_u_o _ _ _ _ hcc).trans ((mm_u_o _ _ _ _ hcc).trans hpa) | exact rfl) ?_
  refine gp_pi dX3_run_18 mf_3_28 rfl rfl (by first | rfl | assumption | (simp only [*]; done)) ?_
  refine gp_aload_n dX3_run_21 rfl ?_
  refine gp_iload_n dX3_run_22 rfl ?_
  refine gp_aload_n dX3_run_23 rfl ?_
  refine gp_giv dX3_run_24 mf_3_21 (by decide) (by first | rfl | assumption | (simp only [*]; done)) (by first | exact hkk | exact hpa | exact (mm_u_j _ _ (by decide)).trans ((mm_u_j _ _ (by decide)).trans (mm_u_s _ _ _ _)) | exact (mm_u_o _ _ _ _ hcc).trans ((mm_u_o _ _ _ _ hcc).trans hpa) | exact rfl) ?_
  refine gp_iload dX3_run_27 rfl ?_
  refine gp_pu (st' := .int (0) :: _) dX3_run_29 rfl ?_
  refine gp_callX (kind := 0) (args := [.ref _, .int _, .int _, .int _, .int _]) (rest := _) dX3_run_30 (Or.inl ⟨rfl, rfl⟩) mk_3_31 (by decide) me_20 rfl rfl rfl rfl rfl rfl (rn_2_4_4 _ (J := mm_u (mm_u (mm_u J 71 2 4) 71 3 m) 71 4 a) (r := 0) (m := m) (a := a) ⟨(mm_u_j _ _ (by decide)).trans ((mm_u_j _ _ (by decide)).trans ((mm_u_j _ _ (by decide)).trans hr1)), (mm_u_j _ _ (by decide)).trans ((mm_u_j _ _ (by decide)).trans (mm_u_s _ _ _ _)), (mm_u_j _ _ (by decide)).trans (mm_u_s _ _ _ _), mm_u_s _ _ _ _⟩ (by decide) (by decide)) ?_
  intro K1 hK1
  rw [hK1]
  refine gp_iret dX3_run_33 rfl ?_
  exact pX.mk rfl rfl

set_option maxHeartbeats 400000 in
theorem ru_5_0 (d : Nat) {cc : Nat} (hcs : mm_sh[cc]? = some (0, 0)) (hcc : cc ≠ 71) {m a x : Int32} (hkk : J cc 0 = 5) (hpa : J cc 1 = a) (hr1 : J 71 1 = nI 0) : cP (d + 4) 15 [.ref 71, .ref cc, .int m, .int 0, .int x] (mm_sh, mm_R, J, L) (pX (some (.int (x + m))) L (fun K => K = nls (mm_u (mm_u (mm_u J 71 2 5) 71 3 m) 71 4 a) 0 [10])) := by
  refine cP.of_gP (d := d + 3) me_15 ⟨Nat.le_of_ble_eq_true rfl, rfl⟩ ?_
  show gP mm_cs0 _ _ _ _ _ _ [some (.ref _), some (.ref _), some (.int _), some (.int _), some (.int _)] [] _ _
  refine gp_aload_n dX3_run_0 rfl ?_
  refine gp_aload_n dX3_run_1 rfl ?_
  refine gp_giv dX3_run_2 mf_3_15 (by decide) (by first | rfl | assumption | (simp only [*]; done)) (by first | exact hkk | exact hpa | exact (mm_u_j _ _ (by decide)).trans ((mm_u_j _ _ (by decide)).trans (mm_u_s _ _ _ _)) | exact (mm_u_o _ _ _ _ hcc).trans ((mm_u_o _ _ _ _ hcc).trans hpa) | exact rfl) ?_
  refine gp_pi dX3_run_5 mf_3_21 rfl rfl (by first | rfl | assumption | (simp only [*]; done)) ?_
  refine gp_aload_n dX3_run_8 rfl ?_
  refine gp_iload_n dX3_run_9 rfl ?_
  refine gp_pi dX3_run_10 mf_3_22 rfl rfl (by first | rfl | assumption | (simp only [*]; done)) ?_
  refine gp_aload_n dX3_run_13 rfl ?_
  refine gp_aload_n dX3_run_14 rfl ?_
  refine gp_giv dX3_run_15 mf_3_25 (by decide) (by first | rfl | assumption | (simp only [*]; done)) (by first | exact hkk | exact hpa | exact (mm_u_j _ _ (by decide)).trans ((mm_u_j _ _ (by decide)).trans (mm_u_s _ _ _ _)) | exact (mm_u_o _ _ _ _ hcc).trans ((mm_u_o _ _ _ _ hcc).trans hpa) | exact rfl) ?_
  refine gp_pi dX3_run_18 mf_3_28 rfl rfl (by first | rfl | assumption | (simp only [*]; done)) ?_
  refine gp_aload_n dX3_run_21 rfl ?_
  refine gp_iload_n dX3_run_22 rfl ?_
  refine gp_aload_n dX3_run_23 rfl ?_
  refine gp_giv dX3_run_24 mf_3_21 (by decide) (by first | rfl | assumption | (simp only [*]; done)) (by first | exact hkk | exact hpa | exact (mm_u_j _ _ (by decide)).trans ((mm_u_j _ _ (by decide)).trans (mm_u_s _ _ _ _)) | exact (mm_u_o _ _ _ _ hcc).trans ((mm_u_o _ _ _ _ hcc).trans hpa) | exact rfl) ?_
  refine gp_iload dX3_run_27 rfl ?_
  refine gp_pu (st' := .int (0) :: _) dX3_run_29 rfl ?_
  refine gp_callX (kind := 0) (args := [.ref _, .int _, .int _, .int _, .int _]) (rest := _) dX3_run_30 (Or.inl ⟨rfl, rfl⟩) mk_3_31 (by decide) me_20 rfl rfl rfl rfl rfl rfl (rn_0_5 _ (J := mm_u (mm_u (mm_u J 71 2 5) 71 3 m) 71 4 a) (r := 0) (m := m) (a := a) (k0 := 5) ⟨(mm_u_j _ _ (by decide)).trans ((mm_u_j _ _ (by decide)).trans ((mm_u_j _ _ (by decide)).trans hr1)), (mm_u_j _ _ (by decide)).trans ((mm_u_j _ _ (by decide)).trans (mm_u_s _ _ _ _)), (mm_u_j _ _ (by decide)).trans (mm_u_s _ _ _ _), mm_u_s _ _ _ _⟩ (by decide) (by decide)) ?_
  intro K1 hK1
  rw [hK1]
  refine gp_iret dX3_run_33 rfl ?_
  exact pX.mk rfl rfl

set_option maxHeartbeats 400000 in
theorem ru_5_1 (d : Nat) {cc : Nat} (hcs : mm_sh[cc]? = some (0, 0)) (hcc : cc ≠ 71) {m a x : Int32} (hkk : J cc 0 = 5) (hpa : J cc 1 = a) (hr1 : J 71 1 = nI 0) : cP (d + 6) 15 [.ref 71, .ref cc, .int m, .int 1, .int x] (mm_sh, mm_R, J, L) (pX (some (.int (((x + m) * 2) * 3))) L (fun K => K = nls (mm_u (mm_u (mm_u J 71 2 5) 71 3 m) 71 4 a) 0 [30, 11, 10])) := by
  refine cP.of_gP (d := d + 5) me_15 ⟨Nat.le_of_ble_eq_true rfl, rfl⟩ ?_
  show gP mm_cs0 _ _ _ _ _ _ [some (.ref _), some (.ref _), some (.int _), some (.int _), some (.int _)] [] _ _
  refine gp_aload_n dX3_run_0 rfl ?_
  refine gp_aload_n dX3_run_1 rfl ?_
  refine gp_giv dX3_run_2 mf_3_15 (by decide) (by first | rfl | assumption | (simp only [*]; done)) (by first | exact hkk | exact hpa | exact (mm_u_j _ _ (by decide)).trans ((mm_u_j _ _ (by decide)).trans (mm_u_s _ _ _ _)) | exact (mm_u_o _ _ _ _ hcc).trans ((mm_u_o _ _ _ _ hcc).trans hpa) | exact rfl) ?_
  refine gp_pi dX3_run_5 mf_3_21 rfl rfl (by first | rfl | assumption | (simp only [*]; done)) ?_
  refine gp_aload_n dX3_run_8 rfl ?_
  refine gp_iload_n dX3_run_9 rfl ?_
  refine gp_pi dX3_run_10 mf_3_22 rfl rfl (by first | rfl | assumption | (simp only [*]; done)) ?_
  refine gp_aload_n dX3_run_13 rfl ?_
  refine gp_aload_n dX3_run_14 rfl ?_
  refine gp_giv dX3_run_15 mf_3_25 (by decide) (by first | rfl | assumption | (simp only [*]; done)) (by first | exact hkk | exact hpa | exact (mm_u_j _ _ (by decide)).trans ((mm_u_j _ _ (by decide)).trans (mm_u_s _ _ _ _)) | exact (mm_u_o _ _ _ _ hcc).trans ((mm_u_o _ _ _ _ hcc).trans hpa) | exact rfl) ?_
  refine gp_pi dX3_run_18 mf_3_28 rfl rfl (by first | rfl | assumption | (simp only [*]; done)) ?_
  refine gp_aload_n dX3_run_21 rfl ?_
  refine gp_iload_n dX3_run_22 rfl ?_
  refine gp_aload_n dX3_run_23 rfl ?_
  refine gp_giv dX3_run_24 mf_3_21 (by decide) (by first | rfl | assumption | (simp only [*]; done)) (by first | exact hkk | exact hpa | exact (mm_u_j _ _ (by decide)).trans ((mm_u_j _ _ (by decide)).trans (mm_u_s _ _ _ _)) | exact (mm_u_o _ _ _ _ hcc).trans ((mm_u_o _ _ _ _ hcc).trans hpa) | exact rfl) ?_
  refine gp_iload dX3_run_27 rfl ?_
  refine gp_pu (st' := .int (0) :: _) dX3_run_29 rfl ?_
  refine gp_callX (kind := 0) (args := [.ref _, .int _, .int _, .int _, .int _]) (rest := _) dX3_run_30 (Or.inl ⟨rfl, rfl⟩) mk_3_31 (by decide) me_20 rfl rfl rfl rfl rfl rfl (rn_1_5_5 _ (J := mm_u (mm_u (mm_u J 71 2 5) 71 3 m) 71 4 a) (r := 0) (m := m) (a := a) ⟨(mm_u_j _ _ (by decide)).trans ((mm_u_j _ _ (by decide)).trans ((mm_u_j _ _ (by decide)).trans hr1)), (mm_u_j _ _ (by decide)).trans ((mm_u_j _ _ (by decide)).trans (mm_u_s _ _ _ _)), (mm_u_j _ _ (by decide)).trans (mm_u_s _ _ _ _), mm_u_s _ _ _ _⟩ (by decide) (by decide)) ?_
  intro K1 hK1
  rw [hK1]
  refine gp_iret dX3_run_33 rfl ?_
  exact pX.mk rfl rfl

set_option maxHeartbeats 400000 in
theorem ru_5_2 (d : Nat) {cc : Nat} (hcs : mm_sh[cc]? = some (0, 0)) (hcc : cc ≠ 71) {m a x : Int32} (hkk : J cc 0 = 5) (hpa : J cc 1 = a) (hr1 : J 71 1 = nI 0) : cP (d + 8) 15 [.ref 71, .ref cc, .int m, .int 2, .int x] (mm_sh, mm_R, J, L) (pX (some (.int (((((x + m) * 2) * 3) ^^^ ((x - a) + m)) ^^^ 5))) L (fun K => K = nls (mm_u (mm_u (mm_u J 71 2 5) 71 3 m) 71 4 a) 0 [60, 12, 30, 11, 10, 10])) := by
  refine cP.of_gP (d := d + 7) me_15 ⟨Nat.le_of_ble_eq_true rfl, rfl⟩ ?_
  show gP mm_cs0 _ _ _ _ _ _ [some (.ref _), some (.ref _), some (.int _), some (.int _), some (.int _)] [] _ _
  refine gp_aload_n dX3_run_0 rfl ?_
  refine gp_aload_n dX3_run_1 rfl ?_
  refine gp_giv dX3_run_2 mf_3_15 (by decide) (by first | rfl | assumption | (simp only [*]; done)) (by first | exact hkk | exact hpa | exact (mm_u_j _ _ (by decide)).trans ((mm_u_j _ _ (by decide)).trans (mm_u_s _ _ _ _)) | exact (mm_u_o _ _ _ _ hcc).trans ((mm_u_o _ _ _ _ hcc).trans hpa) | exact rfl) ?_
  refine gp_pi dX3_run_5 mf_3_21 rfl rfl (by first | rfl | assumption | (simp only [*]; done)) ?_
  refine gp_aload_n dX3_run_8 rfl ?_
  refine gp_iload_n dX3_run_9 rfl ?_
  refine gp_pi dX3_run_10 mf_3_22 rfl rfl (by first | rfl | assumption | (simp only [*]; done)) ?_
  refine gp_aload_n dX3_run_13 rfl ?_
  refine gp_aload_n dX3_run_14 rfl ?_
  refine gp_giv dX3_run_15 mf_3_25 (by decide) (by first | rfl | assumption | (simp only [*]; done)) (by first | exact hkk | exact hpa | exact (mm_u_j _ _ (by decide)).trans ((mm_u_j _ _ (by decide)).trans (mm_u_s _ _ _ _)) | exact (mm_u_o _ _ _ _ hcc).trans ((mm_u_o _ _ _ _ hcc).trans hpa) | exact rfl) ?_
  refine gp_pi dX3_run_18 mf_3_28 rfl rfl (by first | rfl | assumption | (simp only [*]; done)) ?_
  refine gp_aload_n dX3_run_21 rfl ?_
  refine gp_iload_n dX3_run_22 rfl ?_
  refine gp_aload_n dX3_run_23 rfl ?_
  refine gp_giv dX3_run_24 mf_3_21 (by decide) (by first | rfl | assumption | (simp only [*]; done)) (by first | exact hkk | exact hpa | exact (mm_u_j _ _ (by decide)).trans ((mm_u_j _ _ (by decide)).trans (mm_u_s _ _ _ _)) | exact (mm_u_o _ _ _ _ hcc).trans ((mm_u_o _ _ _ _ hcc).trans hpa) | exact rfl) ?_
  refine gp_iload dX3_run_27 rfl ?_
  refine gp_pu (st' := .int (0) :: _) dX3_run_29 rfl ?_
  refine gp_callX (kind := 0) (args := [.ref _, .int _, .int _, .int _, .int _]) (rest := _) dX3_run_30 (Or.inl ⟨rfl, rfl⟩) mk_3_31 (by decide) me_20 rfl rfl rfl rfl rfl rfl (rn_2_5_5 _ (J := mm_u (mm_u (mm_u J 71 2 5) 71 3 m) 71 4 a) (r := 0) (m := m) (a := a) ⟨(mm_u_j _ _ (by decide)).trans ((mm_u_j _ _ (by decide)).trans ((mm_u_j _ _ (by decide)).trans hr1)), (mm_u_j _ _ (by decide)).trans ((mm_u_j _ _ (by decide)).trans (mm_u_s _ _ _ _)), (mm_u_j _ _ (by decide)).trans (mm_u_s _ _ _ _), mm_u_s _ _ _ _⟩ (by decide) (by decide)) ?_
  intro K1 hK1
  rw [hK1]
  refine gp_iret dX3_run_33 rfl ?_
  exact pX.mk rfl rfl

set_option maxHeartbeats 400000 in
theorem ru_6_0 (d : Nat) {cc : Nat} (hcs : mm_sh[cc]? = some (0, 0)) (hcc : cc ≠ 71) {m a x : Int32} (hkk : J cc 0 = 6) (hpa : J cc 1 = a) (hr1 : J 71 1 = nI 0) : cP (d + 6) 15 [.ref 71, .ref cc, .int m, .int 0, .int x] (mm_sh, mm_R, J, L) (pX (some (.int (((x + m) - m) * 2))) L (fun K => K = nls (mm_u (mm_u (mm_u J 71 2 6) 71 3 m) 71 4 a) 0 [70, 51, 10])) := by
  refine cP.of_gP (d := d + 5) me_15 ⟨Nat.le_of_ble_eq_true rfl, rfl⟩ ?_
  show gP mm_cs0 _ _ _ _ _ _ [some (.ref _), some (.ref _), some (.int _), some (.int _), some (.int _)] [] _ _
  refine gp_aload_n dX3_run_0 rfl ?_
  refine gp_aload_n dX3_run_1 rfl ?_
  refine gp_giv dX3_run_2 mf_3_15 (by decide) (by first | rfl | assumption | (simp only [*]; done)) (by first | exact hkk | exact hpa | exact (mm_u_j _ _ (by decide)).trans ((mm_u_j _ _ (by decide)).trans (mm_u_s _ _ _ _)) | exact (mm_u_o _ _ _ _ hcc).trans ((mm_u_o _ _ _ _ hcc).trans hpa) | exact rfl) ?_
  refine gp_pi dX3_run_5 mf_3_21 rfl rfl (by first | rfl | assumption | (simp only [*]; done)) ?_
  refine gp_aload_n dX3_run_8 rfl ?_
  refine gp_iload_n dX3_run_9 rfl ?_
  refine gp_pi dX3_run_10 mf_3_22 rfl rfl (by first | rfl | assumption | (simp only [*]; done)) ?_
  refine gp_aload_n dX3_run_13 rfl ?_
  refine gp_aload_n dX3_run_14 rfl ?_
  refine gp_giv dX3_run_15 mf_3_25 (by decide) (by first | rfl | assumption | (simp only [*]; done)) (by first | exact hkk | exact hpa | exact (mm_u_j _ _ (by decide)).trans ((mm_u_j _ _ (by decide)).trans (mm_u_s _ _ _ _)) | exact (mm_u_o _ _ _ _ hcc).trans ((mm_u_o _ _ _ _ hcc).trans hpa) | exact rfl) ?_
  refine gp_pi dX3_run_18 mf_3_28 rfl rfl (by first | rfl | assumption | (simp only [*]; done)) ?_
  refine gp_aload_n dX3_run_21 rfl ?_
  refine gp_iload_n dX3_run_22 rfl ?_
  refine gp_aload_n dX3_run_23 rfl ?_
  refine gp_giv dX3_run_24 mf_3_21 (by decide) (by first | rfl | assumption | (simp only [*]; done)) (by first | exact hkk | exact hpa | exact (mm_u_j _ _ (by decide)).trans ((mm_u_j _ _ (by decide)).trans (mm_u_s _ _ _ _)) | exact (mm_u_o _ _ _ _ hcc).trans ((mm_u_o _ _ _ _ hcc).trans hpa) | exact rfl) ?_
  refine gp_iload dX3_run_27 rfl ?_
  refine gp_pu (st' := .int (0) :: _) dX3_run_29 rfl ?_
  refine gp_callX (kind := 0) (args := [.ref _, .int _, .int _, .int _, .int _]) (rest := _) dX3_run_30 (Or.inl ⟨rfl, rfl⟩) mk_3_31 (by decide) me_20 rfl rfl rfl rfl rfl rfl (rn_0_6 _ (J := mm_u (mm_u (mm_u J 71 2 6) 71 3 m) 71 4 a) (r := 0) (m := m) (a := a) (k0 := 6) ⟨(mm_u_j _ _ (by decide)).trans ((mm_u_j _ _ (by decide)).trans ((mm_u_j _ _ (by decide)).trans hr1)), (mm_u_j _ _ (by decide)).trans ((mm_u_j _ _ (by decide)).trans (mm_u_s _ _ _ _)), (mm_u_j _ _ (by decide)).trans (mm_u_s _ _ _ _), mm_u_s _ _ _ _⟩ (by decide) (by decide)) ?_
  intro K1 hK1
  rw [hK1]
  refine gp_iret dX3_run_33 rfl ?_
  exact pX.mk rfl rfl

set_option maxHeartbeats 400000 in
theorem ru_6_1 (d : Nat) {cc : Nat} (hcs : mm_sh[cc]? = some (0, 0)) (hcc : cc ≠ 71) {m a x : Int32} (hkk : J cc 0 = 6) (hpa : J cc 1 = a) (hr1 : J 71 1 = nI 0) : cP (d + 8) 15 [.ref 71, .ref cc, .int m, .int 1, .int x] (mm_sh, mm_R, J, L) (pX (some (.int (((((x - a) + m) - m) * 2) * 2))) L (fun K => K = nls (mm_u (mm_u (mm_u J 71 2 6) 71 3 m) 71 4 a) 0 [71, 11, 70, 51, 10])) := by
  refine cP.of_gP (d := d + 7) me_15 ⟨Nat.le_of_ble_eq_true rfl, rfl⟩ ?_
  show gP mm_cs0 _ _ _ _ _ _ [some (.ref _), some (.ref _), some (.int _), some (.int _), some (.int _)] [] _ _
  refine gp_aload_n dX3_run_0 rfl ?_
  refine gp_aload_n dX3_run_1 rfl ?_
  refine gp_giv dX3_run_2 mf_3_15 (by decide) (by first | rfl | assumption | (simp only [*]; done)) (by first | exact hkk | exact hpa | exact (mm_u_j _ _ (by decide)).trans ((mm_u_j _ _ (by decide)).trans (mm_u_s _ _ _ _)) | exact (mm_u_o _ _ _ _ hcc).trans ((mm_u_o _ _ _ _ hcc).trans hpa) | exact rfl) ?_
  refine gp_pi dX3_run_5 mf_3_21 rfl rfl (by first | rfl | assumption | (simp only [*]; done)) ?_
  refine gp_aload_n dX3_run_8 rfl ?_
  refine gp_iload_n dX3_run_9 rfl ?_
  refine gp_pi dX3_run_10 mf_3_22 rfl rfl (by first | rfl | assumption | (simp only [*]; done)) ?_
  refine gp_aload_n dX3_run_13 rfl ?_
  refine gp_aload_n dX3_run_14 rfl ?_
  refine gp_giv dX3_run_15 mf_3_25 (by decide) (by first | rfl | assumption | (simp only [*]; done)) (by first | exact hkk | exact hpa | exact (mm_u_j _ _ (by decide)).trans ((mm_u_j _ _ (by decide)).trans (mm_u_s _ _ _ _)) | exact (mm_u_o _ _ _ _ hcc).trans ((mm_u_o _ _ _ _ hcc).trans hpa) | exact rfl) ?_
  refine gp_pi dX3_run_18 mf_3_28 rfl rfl (by first | rfl | assumption | (simp only [*]; done)) ?_
  refine gp_aload_n dX3_run_21 rfl ?_
  refine gp_iload_n dX3_run_22 rfl ?_
  refine gp_aload_n dX3_run_23 rfl ?_
  refine gp_giv dX3_run_24 mf_3_21 (by decide) (by first | rfl | assumption | (simp only [*]; done)) (by first | exact hkk | exact hpa | exact (mm_u_j _ _ (by decide)).trans ((mm_u_j _ _ (by decide)).trans (mm_u_s _ _ _ _)) | exact (mm_u_o _ _ _ _ hcc).trans ((mm_u_o _ _ _ _ hcc).trans hpa) | exact rfl) ?_
  refine gp_iload dX3_run_27 rfl ?_
  refine gp_pu (st' := .int (0) :: _) dX3_run_29 rfl ?_
  refine gp_callX (kind := 0) (args := [.ref _, .int _, .int _, .int _, .int _]) (rest := _) dX3_run_30 (Or.inl ⟨rfl, rfl⟩) mk_3_31 (by decide) me_20 rfl rfl rfl rfl rfl rfl (rn_1_6_6 _ (J := mm_u (mm_u (mm_u J 71 2 6) 71 3 m) 71 4 a) (r := 0) (m := m) (a := a) ⟨(mm_u_j _ _ (by decide)).trans ((mm_u_j _ _ (by decide)).trans ((mm_u_j _ _ (by decide)).trans hr1)), (mm_u_j _ _ (by decide)).trans ((mm_u_j _ _ (by decide)).trans (mm_u_s _ _ _ _)), (mm_u_j _ _ (by decide)).trans (mm_u_s _ _ _ _), mm_u_s _ _ _ _⟩ (by decide) (by decide)) ?_
  intro K1 hK1
  rw [hK1]
  refine gp_iret dX3_run_33 rfl ?_
  exact pX.mk rfl rfl

set_option maxHeartbeats 400000 in
theorem ru_6_2 (d : Nat) {cc : Nat} (hcs : mm_sh[cc]? = some (0, 0)) (hcc : cc ≠ 71) {m a x : Int32} (hkk : J cc 0 = 6) (hpa : J cc 1 = a) (hr1 : J 71 1 = nI 0) : cP (d + 10) 15 [.ref 71, .ref cc, .int m, .int 2, .int x] (mm_sh, mm_R, J, L) (pX (some (.int (-((((((x - a) + m) - m) * 2) * 2) ^^^ ((((x - a) + m) - m) * 2))))) L (fun K => K = nls (mm_u (mm_u (mm_u J 71 2 6) 71 3 m) 71 4 a) 0 [50, 12, 71, 11, 70, 51, 10, 70, 51, 10])) := by
  refine cP.of_gP (d := d + 9) me_15 ⟨Nat.le_of_ble_eq_true rfl, rfl⟩ ?_
  show gP mm_cs0 _ _ _ _ _ _ [some (.ref _), some (.ref _), some (.int _), some (.int _), some (.int _)] [] _ _
  refine gp_aload_n dX3_run_0 rfl ?_
  refine gp_aload_n dX3_run_1 rfl ?_
  refine gp_giv dX3_run_2 mf_3_15 (by decide) (by first | rfl | assumption | (simp only [*]; done)) (by first | exact hkk | exact hpa | exact (mm_u_j _ _ (by decide)).trans ((mm_u_j _ _ (by decide)).trans (mm_u_s _ _ _ _)) | exact (mm_u_o _ _ _ _ hcc).trans ((mm_u_o _ _ _ _ hcc).trans hpa) | exact rfl) ?_
  refine gp_pi dX3_run_5 mf_3_21 rfl rfl (by first | rfl | assumption | (simp only [*]; done)) ?_
  refine gp_aload_n dX3_run_8 rfl ?_
  refine gp_iload_n dX3_run_9 rfl ?_
  refine gp_pi dX3_run_10 mf_3_22 rfl rfl (by first | rfl | assumption | (simp only [*]; done)) ?_
  refine gp_aload_n dX3_run_13 rfl ?_
  refine gp_aload_n dX3_run_14 rfl ?_
  refine gp_giv dX3_run_15 mf_3_25 (by decide) (by first | rfl | assumption | (simp only [*]; done)) (by first | exact hkk | exact hpa | exact (mm_u_j _ _ (by decide)).trans ((mm_u_j _ _ (by decide)).trans (mm_u_s _ _ _ _)) | exact (mm_u_o _ _ _ _ hcc).trans ((mm_u_o _ _ _ _ hcc).trans hpa) | exact rfl) ?_
  refine gp_pi dX3_run_18 mf_3_28 rfl rfl (by first | rfl | assumption | (simp only [*]; done)) ?_
  refine gp_aload_n dX3_run_21 rfl ?_
  refine gp_iload_n dX3_run_22 rfl ?_
  refine gp_aload_n dX3_run_23 rfl ?_
  refine gp_giv dX3_run_24 mf_3_21 (by decide) (by first | rfl | assumption | (simp only [*]; done)) (by first | exact hkk | exact hpa | exact (mm_u_j _ _ (by decide)).trans ((mm_u_j _ _ (by decide)).trans (mm_u_s _ _ _ _)) | exact (mm_u_o _ _ _ _ hcc).trans ((mm_u_o _ _ _ _ hcc).trans hpa) | exact rfl) ?_
  refine gp_iload dX3_run_27 rfl ?_
  refine gp_pu (st' := .int (0) :: _) dX3_run_29 rfl ?_
  refine gp_callX (kind := 0) (args := [.ref _, .int _, .int _, .int _, .int _]) (rest := _) dX3_run_30 (Or.inl ⟨rfl, rfl⟩) mk_3_31 (by decide) me_20 rfl rfl rfl rfl rfl rfl (rn_2_6_6 _ (J := mm_u (mm_u (mm_u J 71 2 6) 71 3 m) 71 4 a) (r := 0) (m := m) (a := a) ⟨(mm_u_j _ _ (by decide)).trans ((mm_u_j _ _ (by decide)).trans ((mm_u_j _ _ (by decide)).trans hr1)), (mm_u_j _ _ (by decide)).trans ((mm_u_j _ _ (by decide)).trans (mm_u_s _ _ _ _)), (mm_u_j _ _ (by decide)).trans (mm_u_s _ _ _ _), mm_u_s _ _ _ _⟩ (by decide) (by decide)) ?_
  intro K1 hK1
  rw [hK1]
  refine gp_iret dX3_run_33 rfl ?_
  exact pX.mk rfl rfl

theorem nls_sc {I J : pI} (h : sc I J) (B : List Int32) : ∀ r, sc (nls I r B) (nls J r B) := by
  induction B generalizing I J with
  | nil => intro r; exact h
  | cons b B ih => intro r; exact ih (h.uu.uu) (r + 1)
/-- kind and move as plain numbers -/
theorem kd_n {κ : Int32} (h : isKd κ) : ∃ k, k < 7 ∧ κ = nI k := by
  rcases h with rfl | rfl | rfl | rfl | rfl | rfl | rfl
  · exact ⟨0, by omega, rfl⟩
  · exact ⟨1, by omega, rfl⟩
  · exact ⟨2, by omega, rfl⟩
  · exact ⟨3, by omega, rfl⟩
  · exact ⟨4, by omega, rfl⟩
  · exact ⟨5, by omega, rfl⟩
  · exact ⟨6, by omega, rfl⟩

theorem ct_run (d : Nat) {cc : Nat} (hcs : mm_sh[cc]? = some (0, 0)) (hcc : cc ≠ 71) {m a x : Int32} {k mv : Nat} (hk : k < 7) (hmv : mv < 3) (hkk : J cc 0 = nI k) (hpa : J cc 1 = a) (hr1 : J 71 1 = nI 0) : cP (d + 20) 15 [.ref 71, .ref cc, .int m, .int (nI mv), .int x] (mm_sh, mm_R, J, L) (pX (some (.int (actV k mv m a x))) L (fun K => K = nls (mm_u (mm_u (mm_u J 71 2 (nI k)) 71 3 m) 71 4 a) 0 (actB k mv))) := by
  have h1 : k = 0 ∨ k = 1 ∨ k = 2 ∨ k = 3 ∨ k = 4 ∨ k = 5 ∨ k = 6 := by omega
  have h2 : mv = 0 ∨ mv = 1 ∨ mv = 2 := by omega
  rcases h1 with rfl | rfl | rfl | rfl | rfl | rfl | rfl
  · rcases h2 with rfl | rfl | rfl
    · exact ru_0_0 (d + 16) hcs hcc hkk hpa hr1
    · exact ru_0_1 (d + 15) hcs hcc hkk hpa hr1
    · exact ru_0_2 (d + 14) hcs hcc hkk hpa hr1
  · rcases h2 with rfl | rfl | rfl
    · exact ru_1_0 (d + 15) hcs hcc hkk hpa hr1
    · exact ru_1_1 (d + 14) hcs hcc hkk hpa hr1
    · exact ru_1_2 (d + 13) hcs hcc hkk hpa hr1
  · rcases h2 with rfl | rfl | rfl
    · exact ru_2_0 (d + 16) hcs hcc hkk hpa hr1
    · exact ru_2_1 (d + 14) hcs hcc hkk hpa hr1
    · exact ru_2_2 (d + 13) hcs hcc hkk hpa hr1
  · rcases h2 with rfl | rfl | rfl
    · exact ru_3_0 (d + 15) hcs hcc hkk hpa hr1
    · exact ru_3_1 (d + 13) hcs hcc hkk hpa hr1
    · exact ru_3_2 (d + 12) hcs hcc hkk hpa hr1
  · rcases h2 with rfl | rfl | rfl
    · exact ru_4_0 (d + 15) hcs hcc hkk hpa hr1
    · exact ru_4_1 (d + 14) hcs hcc hkk hpa hr1
    · exact ru_4_2 (d + 12) hcs hcc hkk hpa hr1
  · rcases h2 with rfl | rfl | rfl
    · exact ru_5_0 (d + 16) hcs hcc hkk hpa hr1
    · exact ru_5_1 (d + 14) hcs hcc hkk hpa hr1
    · exact ru_5_2 (d + 12) hcs hcc hkk hpa hr1
  · rcases h2 with rfl | rfl | rfl
    · exact ru_6_0 (d + 14) hcs hcc hkk hpa hr1
    · exact ru_6_1 (d + 12) hcs hcc hkk hpa hr1
    · exact ru_6_2 (d + 10) hcs hcc hkk hpa hr1

theorem mt_mv (d : Nat) {c x a : Int32} {k mv : Nat} (hk : k < 7) (hmv : mv < 3) (hc8 : mm_in c 8 = true) (hkk : J 110 c.toNatClampNeg = nI k) (hpa : J 111 c.toNatClampNeg = a) (hr1 : J 108 57 = nI 0) : cP (d + 4) (if mv = 0 then 213 else if mv = 1 then 214 else 215) [.ref 108, .int c, .int x] (mm_sh, mm_R, J, L) (pX (some (.int (actV k mv c a x))) L (fun K => K = nlm J 0 (actB k mv))) := by
  have h1 : k = 0 ∨ k = 1 ∨ k = 2 ∨ k = 3 ∨ k = 4 ∨ k = 5 ∨ k = 6 := by omega
  have h2 : mv = 0 ∨ mv = 1 ∨ mv = 2 := by omega
  rcases h1 with rfl | rfl | rfl | rfl | rfl | rfl | rfl
  · rcases h2 with rfl | rfl | rfl
    · exact hp_0 (d + 2) hc8 hkk hpa hr1 (by decide)
    · exact fa_0 (d + 1) hc8 hkk hpa hr1 (by decide)
    · exact ri_0 (d + 0) hc8 hkk hpa hr1 (by decide)
  · rcases h2 with rfl | rfl | rfl
    · exact hp_1 (d + 2) hc8 hkk hpa hr1 (by decide)
    · exact fa_1 (d + 1) hc8 hkk hpa hr1 (by decide)
    · exact ri_1 (d + 0) hc8 hkk hpa hr1 (by decide)
  · rcases h2 with rfl | rfl | rfl
    · exact hp_2 (d + 2) hc8 hkk hpa hr1 (by decide)
    · exact fa_2 (d + 1) hc8 hkk hpa hr1 (by decide)
    · exact ri_2 (d + 0) hc8 hkk hpa hr1 (by decide)
  · rcases h2 with rfl | rfl | rfl
    · exact hp_3 (d + 2) hc8 hkk hpa hr1 (by decide)
    · exact fa_3 (d + 1) hc8 hkk hpa hr1 (by decide)
    · exact ri_3 (d + 0) hc8 hkk hpa hr1 (by decide)
  · rcases h2 with rfl | rfl | rfl
    · exact hp_4 (d + 2) hc8 hkk hpa hr1 (by decide)
    · exact fa_4 (d + 1) hc8 hkk hpa hr1 (by decide)
    · exact ri_4 (d + 0) hc8 hkk hpa hr1 (by decide)
  · rcases h2 with rfl | rfl | rfl
    · exact hp_5 (d + 2) hc8 hkk hpa hr1 (by decide)
    · exact fa_5 (d + 1) hc8 hkk hpa hr1 (by decide)
    · exact ri_5 (d + 0) hc8 hkk hpa hr1 (by decide)
  · rcases h2 with rfl | rfl | rfl
    · exact hp_6 (d + 2) hc8 hkk hpa hr1 (by decide)
    · exact fa_6 (d + 1) hc8 hkk hpa hr1 (by decide)
    · exact ri_6 (d + 0) hc8 hkk hpa hr1 (by decide)

def acD (N : Nat) (c mv : Int32) : Prop := (0 ≤ c ∧ c < nI N) ∧ 0 ≤ mv ∧ mv < 3
def acB (N : Nat) (c mv : Int32) : Bool := decide (0 ≤ c) && decide (c < nI N) && decide (0 ≤ mv) && decide (mv < 3)
theorem acB_t {N : Nat} {c mv : Int32} (h : 0 ≤ c ∧ c < nI N) (h1 : 0 ≤ mv) (h2 : mv < 3) : acB N c mv = true := by simp [acB, h.1, h.2, h1, h2]
theorem acB_c {N : Nat} {c mv : Int32} (h : ¬ (0 ≤ c ∧ c < nI N)) : acB N c mv = false := by
  cases z : acB N c mv with
  | false => rfl
  | true =>
    simp only [acB, Bool.and_eq_true, decide_eq_true_eq] at z
    exact absurd ⟨z.1.1.1, z.1.1.2⟩ h
theorem acB_l {N : Nat} {c mv : Int32} (h : mv < 0) : acB N c mv = false := by
  cases z : acB N c mv with
  | false => rfl
  | true =>
    simp only [acB, Bool.and_eq_true, decide_eq_true_eq] at z
    exact absurd z.1.2 (Int32.not_le.mpr h)
theorem acB_g {N : Nat} {c mv : Int32} (h : 3 ≤ mv) : acB N c mv = false := by
  cases z : acB N c mv with
  | false => rfl
  | true =>
    simp only [acB, Bool.and_eq_true, decide_eq_true_eq] at z
    exact absurd z.2 (Int32.not_lt.mpr h)
def q_ac (I : pI) (N : Nat) (c mv x : Int32) : Int32 := if acB N c mv = true then actV (I 110 c.toNatClampNeg).toNatClampNeg mv.toNatClampNeg c (I 111 c.toNatClampNeg) x else 0
def b_ac (I : pI) (N : Nat) (c mv : Int32) : List Int32 := if acB N c mv = true then actB (I 110 c.toNatClampNeg).toNatClampNeg mv.toNatClampNeg else []
theorem kd_cl {κ : Int32} (h : wi κ 0 6) : κ.toNatClampNeg < 7 ∧ nI κ.toNatClampNeg = κ := by
  have h0 : 0 ≤ κ := by rw [ti_le, ti_0]; exact h.1
  refine ⟨?_, nI_cl h0⟩
  have := h.2
  unfold Int32.toNatClampNeg
  omega
theorem mv_cl {κ : Int32} (h : 0 ≤ κ) (h3 : κ < 3) : κ.toNatClampNeg < 3 ∧ nI κ.toNatClampNeg = κ := by
  refine ⟨?_, nI_cl h⟩
  rw [ti_lt, show (3 : Int32).toInt = 3 from by decide] at h3
  rw [ti_le, ti_0] at h
  unfold Int32.toNatClampNeg
  omega
theorem i_3 (w : Int32) : w ≤ 2 ↔ w < 3 := by
  simp only [ti_le, ti_lt, show (2 : Int32).toInt = 2 from by decide, show (3 : Int32).toInt = 3 from by decide]
  omega

set_option maxHeartbeats 1000000 in
theorem ok_X3_forget (d : Nat) (I : mI) (L : mL) : mm_Call (d + 1) 16 [.ref 71] (mm_sh, mm_R, I, L) none (mm_sh, mm_R, (mm_u I 71 1 0), L) := by
  refine mm_Call.of_go (d := d + 0) me_16 ⟨Nat.le_of_ble_eq_true rfl, rfl⟩ ?_
  show mm_Go mm_cs0 _ _ _ _ _ _ [some (.ref _)] [] _ _ _
  refine go_aload_n dX3_forget_0 rfl ?_
  refine go_pu (st' := .int (0) :: _) dX3_forget_1 rfl ?_
  refine go_pi dX3_forget_2 mf_3_35 rfl rfl (by first | rfl | assumption | (simp only [*]; done)) ?_
  refine go_vret dX3_forget_5 rfl ?_ ?_
  · first | rfl
  · first | rfl

set_option maxHeartbeats 400000 in
theorem cl_act (d : Nat) (hb : bR I N S) {c mv x : Int32} : cP (d + 21) 95 [.ref 0, .int c, .int mv, .int x] (mm_sh, mm_R, I, L) (pX (some (.int (q_ac I N c mv x))) L (sc (nls (mm_u I 71 1 0) 0 (b_ac I N c mv)))) := by
  have hs := sc.rf I
  have e11 : I 1 1 = nI N := hb.c11 hs
  have e13 : I 1 3 = nI S := hb.c13 hs
  have zqe11 : mm_u I 71 1 0 1 1 = nI N := (mm_u_o _ _ _ _ (by decide)).trans e11
  refine cP.of_gP (d := d + 20) me_95 ⟨Nat.le_of_ble_eq_true rfl, rfl⟩ ?_
  show gP mm_cs0 _ _ _ _ _ _ [some (.ref _), some (.int _), some (.int _), some (.int _)] [] _ _
  refine gp_aload_n dX8_act_0 rfl ?_
  refine gp_gr dX8_act_1 mf_8_56 rfl (by first | rfl | assumption | (simp only [*]; done)) (by first | rfl | assumption | (simp only [*]; done)) ?_
  refine gp_call (kind := 1) (args := [.ref _]) (rest := _) dX8_act_4 (Or.inr (Or.inl ⟨rfl, rfl⟩)) mk_8_343 (by decide) me_16 rfl rfl rfl rfl rfl (mm_rc_of (by first | rfl | assumption | (simp only [*]; done))) (ok_X3_forget _ _ _) rfl ?_
  refine gp_aload_n dX8_act_7 rfl ?_
  refine gp_gr dX8_act_8 mf_8_10 rfl (by first | rfl | assumption | (simp only [*]; done)) (by first | rfl | assumption | (simp only [*]; done)) ?_
  refine gp_iload_n dX8_act_11 rfl ?_
  refine gp_call (kind := 1) (args := [.ref _, .int _]) (rest := _) dX8_act_12 (Or.inr (Or.inl ⟨rfl, rfl⟩)) mk_8_126 (by decide) me_3 rfl rfl rfl rfl rfl (mm_rc_of (by first | rfl | assumption | (simp only [*]; done))) (ok_X1_hasChild _ _ _ _ rfl _) rfl ?_
  refine gp_ifc (t := 27) dX8_act_15 (by decide) c1_eq (fun h1 => ?_) (fun h1 => ?_)
  · (try simp only [bi_0, Classical.not_not, zqe11] at h1)
    refine gp_pu (st' := .int (0) :: _) dX8_act_27 rfl ?_
    refine gp_iret dX8_act_28 rfl ?_
    (first
     | (have e := acB_c (mv := mv) h1; rw [show q_ac I N c mv x = 0 by simp [q_ac, e], show b_ac I N c mv = [] by simp [b_ac, e]]; exact pX.mk rfl (sc.rf _))
     | (have e := acB_l (N := N) (c := c) (mv := mv) h2; rw [show q_ac I N c mv x = 0 by simp [q_ac, e], show b_ac I N c mv = [] by simp [b_ac, e]]; exact pX.mk rfl (sc.rf _))
     | (have e := acB_g (N := N) (c := c) (mv := mv) h3'; rw [show q_ac I N c mv x = 0 by simp [q_ac, e], show b_ac I N c mv = [] by simp [b_ac, e]]; exact pX.mk rfl (sc.rf _)))
  · (try simp only [bi_0, Classical.not_not, zqe11] at h1)
    refine gp_iload_n dX8_act_18 rfl ?_
    refine gp_ifc (t := 27) dX8_act_19 (by decide) c1_lt (fun h2 => ?_) (fun h2 => ?_)
    · have h2' := Int32.not_le.mpr h2
      (try simp only [bi_0, Classical.not_not, zqe11] at h2)
      refine gp_pu (st' := .int (0) :: _) dX8_act_27 rfl ?_
      refine gp_iret dX8_act_28 rfl ?_
      (first
       | (have e := acB_c (mv := mv) h1; rw [show q_ac I N c mv x = 0 by simp [q_ac, e], show b_ac I N c mv = [] by simp [b_ac, e]]; exact pX.mk rfl (sc.rf _))
       | (have e := acB_l (N := N) (c := c) (mv := mv) h2; rw [show q_ac I N c mv x = 0 by simp [q_ac, e], show b_ac I N c mv = [] by simp [b_ac, e]]; exact pX.mk rfl (sc.rf _))
       | (have e := acB_g (N := N) (c := c) (mv := mv) h3'; rw [show q_ac I N c mv x = 0 by simp [q_ac, e], show b_ac I N c mv = [] by simp [b_ac, e]]; exact pX.mk rfl (sc.rf _)))
    · have h2' := Int32.not_lt.mp h2
      (try simp only [bi_0, Classical.not_not, zqe11] at h2)
      refine gp_iload_n dX8_act_22 rfl ?_
      refine gp_pu (st' := .int (3) :: _) dX8_act_23 rfl ?_
      refine gp_icc (t := 29) dX8_act_24 (by decide) c2_lt (fun h3 => ?_) (fun h3 => ?_)
      · have h3' := Int32.not_le.mpr h3
        (try simp only [bi_0, Classical.not_not, zqe11] at h3)
        obtain ⟨zqc1, zqc2, zqc3, zqc4⟩ := hb.cc (sc.rf I) (c := c) h1
        obtain ⟨zqk1, zqk2⟩ := kd_cl (hb.k (hb.cl h1).2.1).1
        obtain ⟨zqm1, zqm2⟩ := mv_cl (Int32.not_lt.mp h2) h3
        have zqh := (hb.cl h1).2.1
        have zqrun := fun d => ct_run (J := mm_u I 71 1 0) (L := L) d (m := c) (x := x) zqc3 (by omega) zqk1 zqm1 (((mm_u_o _ _ _ _ (by omega)).trans (zqc4 0 (by decide))).trans zqk2.symm) ((mm_u_o _ _ _ _ (by omega)).trans (zqc4 1 (by decide))) (mm_u_s I 71 1 0)
        rw [zqm2] at zqrun
        refine gp_aload_n dX8_act_29 rfl ?_
        refine gp_gr dX8_act_30 mf_8_56 rfl (by first | rfl | assumption | (simp only [*]; done)) (by first | rfl | assumption | (simp only [*]; done)) ?_
        refine gp_aload_n dX8_act_33 rfl ?_
        refine gp_gr dX8_act_34 mf_8_10 rfl (by first | rfl | assumption | (simp only [*]; done)) (by first | rfl | assumption | (simp only [*]; done)) ?_
        refine gp_gr dX8_act_37 mf_8_138 rfl (by first | rfl | assumption | (simp only [*]; done)) (by first | rfl | assumption | (simp only [*]; done)) ?_
        refine gp_iload_n dX8_act_40 rfl ?_
        refine gp_aal dX8_act_41 (by first | rfl | assumption | (simp only [*]; done)) (by decide) (by first | rfl | assumption | (simp only [*]; done)) (by first | rfl | assumption | (simp only [*]; done)) ?_
        refine gp_iload_n dX8_act_42 rfl ?_
        refine gp_iload_n dX8_act_43 rfl ?_
        refine gp_iload_n dX8_act_44 rfl ?_
        refine gp_callX (kind := 1) (args := [.ref _, .ref _, .int _, .int _, .int _]) (rest := _) dX8_act_45 (Or.inr (Or.inl ⟨rfl, rfl⟩)) mk_8_346 (by decide) me_15 rfl rfl rfl rfl rfl (mm_rc_of (by first | rfl | assumption | (simp only [*]; done))) (zqrun _) ?_
        intro K1 hK1
        rw [hK1]
        refine gp_iret dX8_act_48 rfl ?_
        (have e := acB_t h1 (Int32.not_lt.mp h2) h3
         rw [show q_ac I N c mv x = actV (I 110 c.toNatClampNeg).toNatClampNeg mv.toNatClampNeg c (I 111 c.toNatClampNeg) x by simp [q_ac, e], show b_ac I N c mv = actB (I 110 c.toNatClampNeg).toNatClampNeg mv.toNatClampNeg by simp [b_ac, e]]
         exact pX.mk rfl (nls_sc (((sc.rf (mm_u I 71 1 0)).u rfl).u rfl |>.u rfl) _ 0))
      · have h3' := Int32.not_lt.mp h3
        (try simp only [bi_0, Classical.not_not, zqe11] at h3)
        refine gp_pu (st' := .int (0) :: _) dX8_act_27 rfl ?_
        refine gp_iret dX8_act_28 rfl ?_
        (first
         | (have e := acB_c (mv := mv) h1; rw [show q_ac I N c mv x = 0 by simp [q_ac, e], show b_ac I N c mv = [] by simp [b_ac, e]]; exact pX.mk rfl (sc.rf _))
         | (have e := acB_l (N := N) (c := c) (mv := mv) h2; rw [show q_ac I N c mv x = 0 by simp [q_ac, e], show b_ac I N c mv = [] by simp [b_ac, e]]; exact pX.mk rfl (sc.rf _))
         | (have e := acB_g (N := N) (c := c) (mv := mv) h3'; rw [show q_ac I N c mv x = 0 by simp [q_ac, e], show b_ac I N c mv = [] by simp [b_ac, e]]; exact pX.mk rfl (sc.rf _)))

theorem mv_2 {w : Int32} (h : 0 ≤ w) (h3 : w < 3) (h0 : ¬ w = 0) (h1 : ¬ w = 1) : w = 2 := by
  simp only [ti_le, ti_lt, ti_eq, ti_0, ti_1, show (2 : Int32).toInt = 2 from by decide, show (3 : Int32).toInt = 3 from by decide] at *
  omega

set_option maxHeartbeats 400000 in
theorem ml_act (d : Nat) (v : vN I N S) (hs : mR I C J) {c mv x : Int32} : cP (d + 5) 216 [.ref 108, .int c, .int mv, .int x] (mm_sh, mm_R, J, L) (pX (some (.int (q_ac I N c mv x))) L (mR (nlm (mm_u I 108 57 0) 0 (b_ac I N c mv)) C)) := by
  have m0 : J 108 0 = nI N := (hs.r (by decide)).trans v.2.2.1
  have m1 : J 108 1 = nI S := (hs.r (by decide)).trans v.2.2.2.1
  have zqm0 : mm_u J 108 57 0 108 0 = nI N := (mm_u_j _ _ (by decide)).trans m0
  refine cP.of_gP (d := d + 4) me_216 ⟨Nat.le_of_ble_eq_true rfl, rfl⟩ ?_
  show gP mm_cs0 _ _ _ _ _ _ [some (.ref _), some (.int _), some (.int _), some (.int _)] [] _ _
  refine gp_aload_n dX9_act_0 rfl ?_
  refine gp_pu (st' := .int (0) :: _) dX9_act_1 rfl ?_
  refine gp_pi dX9_act_2 mf_9_346 rfl rfl (by first | rfl | assumption | (simp only [*]; done)) ?_
  refine gp_aload_n dX9_act_5 rfl ?_
  refine gp_iload_n dX9_act_6 rfl ?_
  refine gp_call (kind := 1) (args := [.ref _, .int _]) (rest := _) dX9_act_7 (Or.inr (Or.inl ⟨rfl, rfl⟩)) mk_9_131 (by decide) me_130 rfl rfl rfl rfl rfl (mm_rc_of (by first | rfl | assumption | (simp only [*]; done))) (ok_X9_isChild _ _ _ _) rfl ?_
  refine gp_ifc (t := 22) dX9_act_10 (by decide) c1_eq (fun h1 => ?_) (fun h1 => ?_)
  · (try simp only [bi_0, Classical.not_not, zqm0, i_3] at h1)
    try have h3n := Int32.not_lt.mp h3
    refine gp_pu (st' := .int (0) :: _) dX9_act_22 rfl ?_
    refine gp_iret dX9_act_23 rfl ?_
    (first
     | (have e := acB_c (mv := mv) h1; rw [show q_ac I N c mv x = 0 by simp [q_ac, e], show b_ac I N c mv = [] by simp [b_ac, e]]; exact pX.mk rfl (hs.uu (by decide)))
     | (have e := acB_l (N := N) (c := c) (mv := mv) h2; rw [show q_ac I N c mv x = 0 by simp [q_ac, e], show b_ac I N c mv = [] by simp [b_ac, e]]; exact pX.mk rfl (hs.uu (by decide)))
     | (have e := acB_g (N := N) (c := c) (mv := mv) h3n; rw [show q_ac I N c mv x = 0 by simp [q_ac, e], show b_ac I N c mv = [] by simp [b_ac, e]]; exact pX.mk rfl (hs.uu (by decide))))
  · (try simp only [bi_0, Classical.not_not, zqm0, i_3] at h1)
    refine gp_iload_n dX9_act_13 rfl ?_
    refine gp_ifc (t := 22) dX9_act_14 (by decide) c1_lt (fun h2 => ?_) (fun h2 => ?_)
    · have h2' := Int32.not_le.mpr h2
      (try simp only [bi_0, Classical.not_not, zqm0, i_3] at h2)
      try have h3n := Int32.not_lt.mp h3
      refine gp_pu (st' := .int (0) :: _) dX9_act_22 rfl ?_
      refine gp_iret dX9_act_23 rfl ?_
      (first
       | (have e := acB_c (mv := mv) h1; rw [show q_ac I N c mv x = 0 by simp [q_ac, e], show b_ac I N c mv = [] by simp [b_ac, e]]; exact pX.mk rfl (hs.uu (by decide)))
       | (have e := acB_l (N := N) (c := c) (mv := mv) h2; rw [show q_ac I N c mv x = 0 by simp [q_ac, e], show b_ac I N c mv = [] by simp [b_ac, e]]; exact pX.mk rfl (hs.uu (by decide)))
       | (have e := acB_g (N := N) (c := c) (mv := mv) h3n; rw [show q_ac I N c mv x = 0 by simp [q_ac, e], show b_ac I N c mv = [] by simp [b_ac, e]]; exact pX.mk rfl (hs.uu (by decide))))
    · have h2' := Int32.not_lt.mp h2
      (try simp only [bi_0, Classical.not_not, zqm0, i_3] at h2)
      refine gp_iload_n dX9_act_17 rfl ?_
      refine gp_pu (st' := .int (2) :: _) dX9_act_18 rfl ?_
      refine gp_icc (t := 24) dX9_act_19 (by decide) c2_le (fun h3 => ?_) (fun h3 => ?_)
      · have h3' := Int32.not_lt.mpr h3
        (try simp only [bi_0, Classical.not_not, zqm0, i_3] at h3)
        obtain ⟨zqk1, zqk2⟩ := kd_cl (v.k (v.cl h1).2.1).1
        have zqc8 := v.in8 h1
        refine gp_iload_n dX9_act_24 rfl ?_
        refine gp_ifc (t := 37) dX9_act_25 (by decide) c1_ne (fun h4 => ?_) (fun h4 => ?_)
        · (try simp only [bi_0, Classical.not_not, zqm0, i_3] at h4)
          refine gp_iload_n dX9_act_37 rfl ?_
          refine gp_pu (st' := .int (1) :: _) dX9_act_38 rfl ?_
          refine gp_icc (t := 51) dX9_act_39 (by decide) c2_ne (fun h5 => ?_) (fun h5 => ?_)
          · (try simp only [bi_0, Classical.not_not, zqm0, i_3] at h5)
            refine gp_aload_n dX9_act_51 rfl ?_
            refine gp_iload_n dX9_act_52 rfl ?_
            refine gp_iload_n dX9_act_53 rfl ?_
            refine gp_callX (kind := 1) (args := [.ref _, .int _, .int _]) (rest := _) dX9_act_54 (Or.inr (Or.inl ⟨rfl, rfl⟩)) mk_9_358 (by decide) me_215 rfl rfl rfl rfl rfl (mm_rc_of (by first | rfl | assumption | (simp only [*]; done))) (mt_mv (J := mm_u J 108 57 0) _ (k := (I 110 c.toNatClampNeg).toNatClampNeg) (mv := 2) zqk1 (by decide) zqc8 (((mm_u_o _ _ _ _ (by decide)).trans (hs.1 110 _ rfl)).trans zqk2.symm) ((mm_u_o _ _ _ _ (by decide)).trans (hs.1 111 _ rfl)) (mm_u_s J 108 57 0)) ?_
            intro K1 hK1
            rw [hK1]
            refine gp_iret dX9_act_57 rfl ?_
            (first
             | (have zm : mv = 0 := h4; subst zm; have e := acB_t h1 (Int32.not_lt.mp h2) h3; rw [show q_ac I N c 0 x = actV (I 110 c.toNatClampNeg).toNatClampNeg 0 c (I 111 c.toNatClampNeg) x by simp [q_ac, e], show b_ac I N c 0 = actB (I 110 c.toNatClampNeg).toNatClampNeg 0 by simp [b_ac, e]]; exact pX.mk rfl ((hs.uu (by decide)).nlm _ 0))
             | (have zm : mv = 1 := h5; subst zm; have e := acB_t h1 (Int32.not_lt.mp h2) h3; rw [show q_ac I N c 1 x = actV (I 110 c.toNatClampNeg).toNatClampNeg 1 c (I 111 c.toNatClampNeg) x by simp [q_ac, e], show b_ac I N c 1 = actB (I 110 c.toNatClampNeg).toNatClampNeg 1 by simp [b_ac, e]]; exact pX.mk rfl ((hs.uu (by decide)).nlm _ 0))
             | (have zm : mv = 2 := mv_2 (Int32.not_lt.mp h2) h3 h4 h5; subst zm; have e := acB_t h1 (Int32.not_lt.mp h2) h3; rw [show q_ac I N c 2 x = actV (I 110 c.toNatClampNeg).toNatClampNeg 2 c (I 111 c.toNatClampNeg) x by simp [q_ac, e], show b_ac I N c 2 = actB (I 110 c.toNatClampNeg).toNatClampNeg 2 by simp [b_ac, e]]; exact pX.mk rfl ((hs.uu (by decide)).nlm _ 0)))
          · (try simp only [bi_0, Classical.not_not, zqm0, i_3] at h5)
            refine gp_aload_n dX9_act_42 rfl ?_
            refine gp_iload_n dX9_act_43 rfl ?_
            refine gp_iload_n dX9_act_44 rfl ?_
            refine gp_callX (kind := 1) (args := [.ref _, .int _, .int _]) (rest := _) dX9_act_45 (Or.inr (Or.inl ⟨rfl, rfl⟩)) mk_9_355 (by decide) me_214 rfl rfl rfl rfl rfl (mm_rc_of (by first | rfl | assumption | (simp only [*]; done))) (mt_mv (J := mm_u J 108 57 0) _ (k := (I 110 c.toNatClampNeg).toNatClampNeg) (mv := 1) zqk1 (by decide) zqc8 (((mm_u_o _ _ _ _ (by decide)).trans (hs.1 110 _ rfl)).trans zqk2.symm) ((mm_u_o _ _ _ _ (by decide)).trans (hs.1 111 _ rfl)) (mm_u_s J 108 57 0)) ?_
            intro K1 hK1
            rw [hK1]
            refine gp_goto (t := 57) dX9_act_48 (by decide) ?_
            refine gp_iret dX9_act_57 rfl ?_
            (first
             | (have zm : mv = 0 := h4; subst zm; have e := acB_t h1 (Int32.not_lt.mp h2) h3; rw [show q_ac I N c 0 x = actV (I 110 c.toNatClampNeg).toNatClampNeg 0 c (I 111 c.toNatClampNeg) x by simp [q_ac, e], show b_ac I N c 0 = actB (I 110 c.toNatClampNeg).toNatClampNeg 0 by simp [b_ac, e]]; exact pX.mk rfl ((hs.uu (by decide)).nlm _ 0))
             | (have zm : mv = 1 := h5; subst zm; have e := acB_t h1 (Int32.not_lt.mp h2) h3; rw [show q_ac I N c 1 x = actV (I 110 c.toNatClampNeg).toNatClampNeg 1 c (I 111 c.toNatClampNeg) x by simp [q_ac, e], show b_ac I N c 1 = actB (I 110 c.toNatClampNeg).toNatClampNeg 1 by simp [b_ac, e]]; exact pX.mk rfl ((hs.uu (by decide)).nlm _ 0))
             | (have zm : mv = 2 := mv_2 (Int32.not_lt.mp h2) h3 h4 h5; subst zm; have e := acB_t h1 (Int32.not_lt.mp h2) h3; rw [show q_ac I N c 2 x = actV (I 110 c.toNatClampNeg).toNatClampNeg 2 c (I 111 c.toNatClampNeg) x by simp [q_ac, e], show b_ac I N c 2 = actB (I 110 c.toNatClampNeg).toNatClampNeg 2 by simp [b_ac, e]]; exact pX.mk rfl ((hs.uu (by decide)).nlm _ 0)))
        · (try simp only [bi_0, Classical.not_not, zqm0, i_3] at h4)
          refine gp_aload_n dX9_act_28 rfl ?_
          refine gp_iload_n dX9_act_29 rfl ?_
          refine gp_iload_n dX9_act_30 rfl ?_
          refine gp_callX (kind := 1) (args := [.ref _, .int _, .int _]) (rest := _) dX9_act_31 (Or.inr (Or.inl ⟨rfl, rfl⟩)) mk_9_352 (by decide) me_213 rfl rfl rfl rfl rfl (mm_rc_of (by first | rfl | assumption | (simp only [*]; done))) (mt_mv (J := mm_u J 108 57 0) _ (k := (I 110 c.toNatClampNeg).toNatClampNeg) (mv := 0) zqk1 (by decide) zqc8 (((mm_u_o _ _ _ _ (by decide)).trans (hs.1 110 _ rfl)).trans zqk2.symm) ((mm_u_o _ _ _ _ (by decide)).trans (hs.1 111 _ rfl)) (mm_u_s J 108 57 0)) ?_
          intro K1 hK1
          rw [hK1]
          refine gp_goto (t := 57) dX9_act_34 (by decide) ?_
          refine gp_iret dX9_act_57 rfl ?_
          (first
           | (have zm : mv = 0 := h4; subst zm; have e := acB_t h1 (Int32.not_lt.mp h2) h3; rw [show q_ac I N c 0 x = actV (I 110 c.toNatClampNeg).toNatClampNeg 0 c (I 111 c.toNatClampNeg) x by simp [q_ac, e], show b_ac I N c 0 = actB (I 110 c.toNatClampNeg).toNatClampNeg 0 by simp [b_ac, e]]; exact pX.mk rfl ((hs.uu (by decide)).nlm _ 0))
           | (have zm : mv = 1 := h5; subst zm; have e := acB_t h1 (Int32.not_lt.mp h2) h3; rw [show q_ac I N c 1 x = actV (I 110 c.toNatClampNeg).toNatClampNeg 1 c (I 111 c.toNatClampNeg) x by simp [q_ac, e], show b_ac I N c 1 = actB (I 110 c.toNatClampNeg).toNatClampNeg 1 by simp [b_ac, e]]; exact pX.mk rfl ((hs.uu (by decide)).nlm _ 0))
           | (have zm : mv = 2 := mv_2 (Int32.not_lt.mp h2) h3 h4 h5; subst zm; have e := acB_t h1 (Int32.not_lt.mp h2) h3; rw [show q_ac I N c 2 x = actV (I 110 c.toNatClampNeg).toNatClampNeg 2 c (I 111 c.toNatClampNeg) x by simp [q_ac, e], show b_ac I N c 2 = actB (I 110 c.toNatClampNeg).toNatClampNeg 2 by simp [b_ac, e]]; exact pX.mk rfl ((hs.uu (by decide)).nlm _ 0)))
      · have h3' := Int32.not_le.mp h3
        (try simp only [bi_0, Classical.not_not, zqm0, i_3] at h3)
        try have h3n := Int32.not_lt.mp h3
        refine gp_pu (st' := .int (0) :: _) dX9_act_22 rfl ?_
        refine gp_iret dX9_act_23 rfl ?_
        (first
         | (have e := acB_c (mv := mv) h1; rw [show q_ac I N c mv x = 0 by simp [q_ac, e], show b_ac I N c mv = [] by simp [b_ac, e]]; exact pX.mk rfl (hs.uu (by decide)))
         | (have e := acB_l (N := N) (c := c) (mv := mv) h2; rw [show q_ac I N c mv x = 0 by simp [q_ac, e], show b_ac I N c mv = [] by simp [b_ac, e]]; exact pX.mk rfl (hs.uu (by decide)))
         | (have e := acB_g (N := N) (c := c) (mv := mv) h3n; rw [show q_ac I N c mv x = 0 by simp [q_ac, e], show b_ac I N c mv = [] by simp [b_ac, e]]; exact pX.mk rfl (hs.uu (by decide))))

theorem eq_act (c mv x : Int32) : eqc 95 216 [.int c, .int mv, .int x] := by
  refine eqc_of fun I L hR => ?_
  obtain ⟨N, S, hb, hS, hL, hK, hT, hW, hE⟩ := hR
  refine ⟨_, L, nls (mm_u I 71 1 0) 0 (b_ac I N c mv), nlm (mm_u I 108 57 0) 0 (b_ac I N c mv), L, cl_act 19 hb, fun k hk => ?_, fun C J hs => ml_act 35 hb.1 hs, ?_⟩
  · funext j
    rw [nls_o _ _ _ (by omega) (by omega), mm_u_o _ _ _ _ (by omega)]
  · have eI : ∀ k j, (k = 71 → j ≠ 1) → k ≠ 72 → nls (mm_u I 71 1 0) 0 (b_ac I N c mv) k j = I k j := fun k j a b => by
      rw [nls_o _ _ _ a b, mm_u_i, if_neg (fun z => a z.1 z.2)]
    have eM : ∀ k j, (k = 108 → j ≠ 57) → k ≠ 137 → nlm (mm_u I 108 57 0) 0 (b_ac I N c mv) k j = I k j := fun k j a b => by
      rw [nlm_o _ _ _ a b, mm_u_i, if_neg (fun z => a z.1 z.2)]
    have e : ∀ k j, (k = 71 → j ≠ 1) → k ≠ 72 → (k = 108 → j ≠ 57) → k ≠ 137 → mg (nls (mm_u I 71 1 0) 0 (b_ac I N c mv)) (nlm (mm_u I 108 57 0) 0 (b_ac I N c mv)) k j = I k j := fun k j a b c' d' => by
      by_cases q : k < 108
      · rw [mg_c _ _ q]; exact eI k j a b
      · rw [mg_r _ _ (by omega)]; exact eM k j c' d'
    have hT2 := trE.step (I := mm_u I 71 1 0) (J := mm_u I 108 57 0) (fun i hi => by rw [mm_u_o _ _ _ _ (by decide), mm_u_o _ _ _ _ (by decide)]; exact hT.2 i hi) (b_ac I N c mv) 0 (mm_u_s _ _ _ _) (mm_u_s _ _ _ _)
    refine ⟨N, S, ⟨hb.1.cg (fun k j z => e k j (by rcases z with z | z <;> omega) (by rcases z with z | z <;> omega) (by rcases z with z | z <;> omega) (by rcases z with z | z <;> omega)), hb.2.cg (fun k a b j => e k j (by omega) (by omega) (by omega) (by omega)) (fun k j z => e k j (by rcases z with z | z <;> omega) (by rcases z with z | z <;> omega) (by rcases z with z | z <;> omega) (by rcases z with z | z <;> omega))⟩, fun q hq => (hS q hq).cg (fun j => e _ j (by omega) (by omega) (by omega) (by omega)) (e _ _ (by omega) (by omega) (by omega) (by omega)) (e _ _ (by omega) (by omega) (by omega) (by omega)) (e _ _ (by omega) (by omega) (by omega) (by omega)) (e _ _ (by omega) (by omega) (by omega) (by omega)) (e _ _ (by omega) (by omega) (by omega) (by omega)), hL, hK.cg (e _ _ (by omega) (by omega) (by omega) (by omega)) (e _ _ (by omega) (by omega) (by omega) (by omega)) (fun k a b j => e k j (by omega) (by omega) (by omega) (by omega)) (fun j => e _ j (by omega) (by omega) (by omega) (by omega)), ⟨?_, fun i hi => ?_⟩, hW.cg (fun j => e _ j (by omega) (by omega) (by omega) (by omega)) (fun j => e _ j (by omega) (by omega) (by omega) (by omega)), hE.cg (e _ _ (by omega) (by omega) (by omega) (by omega)) (e _ _ (by omega) (by omega) (by omega) (by omega)) (fun j => e _ j (by omega) (by omega) (by omega) (by omega)) (fun j => e _ j (by omega) (by omega) (by omega) (by omega))⟩
    · rw [mg_c _ _ (by omega : 71 < 108), mg_r _ _ (by omega : 108 ≤ 108)]; exact hT2.1
    · rw [mg_c _ _ (by omega : 72 < 108), mg_r _ _ (by omega : 108 ≤ 137)]; exact hT2.2 i hi
end P84
