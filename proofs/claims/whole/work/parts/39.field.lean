/-! LAYER A: fields -/
theorem i_as (x : Int32) : x + 1 - 1 = x := by
  apply Int32.toBitVec_inj.mp
  exact BitVec.add_sub_cancel x.toBitVec 1
def x_addC (I : mI) (f : Nat) (k a l : Int32) : mI :=
  sr (sr I (f + 4 + (I f 1).toNatClampNeg) (upd (upd (upd (upd (upd (upd (I (f + 4 + (I f 1).toNatClampNeg)) 0 k) 1 a) 2 l) 3 (if 0 ≤ I f 1 ∧ I f 1 < I f 3 then I f 1 else 0)) 4 0) 5 0)) f (upd (I f) 1 (I f 1 + 1))
def x_addS (I : mI) (f : Nat) (l h : Int32) : mI :=
  sr (sr I (f + 12 + (I f 3).toNatClampNeg) (upd (upd (I (f + 12 + (I f 3).toNatClampNeg)) 0 l) 1 h)) f (upd (I f) 3 (I f 3 + 1))
def x_term (I : mI) (f : Nat) (w v : Int32) : mI := if 0 ≤ w ∧ w < 4 then sr I (f + 3) (upd (I (f + 3)) w.toNatClampNeg v) else I
def i_next (s : Int32) : Int32 := s * 1103515245 + 12345
def i_up (s : Int32) : Int32 := (s.toUInt32 >>> ((16 : Int32).toUInt32 &&& Int32.toUInt32 31)).toInt32
def i_draw (s b : Int32) : Int32 := i_up s - i_up s / b * b
theorem mm_in_4 {x : Int32} : mm_in x 4 = true ↔ 0 ≤ x ∧ x < 4 := mm_in_i (n := 4) (by omega)
theorem sr_comm (I : mI) {a b : Nat} (h : a ≠ b) (ρ σ : mRow) : sr (sr I a ρ) b σ = sr (sr I b σ) a ρ := by
  funext k
  unfold sr
  by_cases h1 : k = a
  · subst h1; simp [h]
  · simp [h1]

set_option maxHeartbeats 1000000 in
theorem ok_X1_addSack (d : Nat) (I : mI) (L : mL) (f : Nat) (hF : isF f) (l h : Int32) (hp : 0 ≤ I f 3 ∧ I f 3 < 8) : mm_Call (d + 1) 6 [.ref f, .int l, .int h] (mm_sh, mm_R, I, L) (some (.int (I f 3))) (mm_sh, mm_R, (x_addS I f l h), L) := by
  obtain ⟨hf, f1, f2, f3, f4, f5, f6, f7⟩ := hF
  have hi8 : mm_in (I f 3) 8 = true := mm_in_8.mpr hp
  have hlt := mm_in_lt hi8
  have hn : f + 12 + (I f 3).toNatClampNeg ≠ f := by omega
  have hn' : f ≠ f + 12 + (I f 3).toNatClampNeg := by omega
  obtain ⟨hj1, hj2, hj3, hj4⟩ := f7 _ hlt
  have hlt8 : ¬ 8 ≤ I f 3 := Int32.not_le.mpr hp.2
  refine mm_Call.of_go (d := d + 0) me_6 ⟨Nat.le_of_ble_eq_true rfl, rfl⟩ ?_
  show mm_Go mm_cs0 _ _ _ _ _ _ [some (.ref _), some (.int _), some (.int _)] [] _ _ _
  refine go_aload_n dX1_addSack_0 rfl ?_
  refine go_gi dX1_addSack_1 mf_1_36 (by decide) (by first | exact hf | exact f4 | exact hj4) ?_
  refine go_pu (st' := .int (8) :: _) dX1_addSack_4 rfl ?_
  refine go_icc (t := 11) dX1_addSack_6 (by decide) c2_lt (fun h1 => ?_) (fun h1 => ?_)
  · have h1' := Int32.not_le.mpr h1
    refine go_aload_n dX1_addSack_11 rfl ?_
    refine go_gr dX1_addSack_12 mf_1_19 rfl (by first | exact hf | exact f4 | exact hj4) f3 ?_
    refine go_aload_n dX1_addSack_15 rfl ?_
    refine go_gi dX1_addSack_16 mf_1_36 (by decide) (by first | exact hf | exact f4 | exact hj4) ?_
    refine go_aal dX1_addSack_19 (by first | exact hf | exact f4 | exact hj4) (by decide) hi8 hj3 ?_
    refine go_iload_n dX1_addSack_20 rfl ?_
    refine go_pi dX1_addSack_21 mf_1_61 rfl rfl (by first | exact hf | exact f4 | exact hj4) ?_
    refine go_aload_n dX1_addSack_24 rfl ?_
    refine go_gr dX1_addSack_25 mf_1_19 rfl (by first | exact hf | exact f4 | exact hj4) f3 ?_
    refine go_aload_n dX1_addSack_28 rfl ?_
    refine go_gi dX1_addSack_29 mf_1_36 (by decide) (by first | exact hf | exact f4 | exact hj4) ?_
    refine go_aal dX1_addSack_32 (by first | exact hf | exact f4 | exact hj4) (by decide) (by simpa [mm_u_sr, sr_same, sr_sr, up_s, up_o, sr_other, up_up, hn'] using hi8) (by simpa [mm_u_sr, sr_same, sr_sr, up_s, up_o, sr_other, up_up, hn'] using hj3) ?_
    refine go_iload_n dX1_addSack_33 rfl ?_
    refine go_pi dX1_addSack_34 mf_1_64 rfl rfl (by first | exact hf | exact f4 | exact hj4) ?_
    refine go_aload_n dX1_addSack_37 rfl ?_
    refine go_pu dX1_addSack_38 rfl ?_
    refine go_gi dX1_addSack_39 mf_1_36 (by decide) (by first | exact hf | exact f4 | exact hj4) ?_
    refine go_pu (st' := .int (1) :: _) dX1_addSack_42 rfl ?_
    refine go_pu (st' := .int _ :: _) dX1_addSack_43 rfl ?_
    refine go_pi dX1_addSack_44 mf_1_36 rfl rfl (by first | exact hf | exact f4 | exact hj4) ?_
    refine go_aload_n dX1_addSack_47 rfl ?_
    refine go_gi dX1_addSack_48 mf_1_36 (by decide) (by first | exact hf | exact f4 | exact hj4) ?_
    refine go_pu (st' := .int (1) :: _) dX1_addSack_51 rfl ?_
    refine go_pu (st' := .int _ :: _) dX1_addSack_52 rfl ?_
    refine go_iret dX1_addSack_53 rfl ?_ ?_
    · first | with_reducible rfl | (rw [i_as]; done) | (simp [mm_u_sr, sr_same, sr_sr, up_s, up_o, sr_other, up_up, x_addS, hn, hn', i_as]; done)
    · first | with_reducible rfl | (rw [i_as]; done) | (simp [mm_u_sr, sr_same, sr_sr, up_s, up_o, sr_other, up_up, x_addS, hn, hn', i_as]; done)
  · exact absurd hp.2 h1

set_option maxHeartbeats 1000000 in
theorem ok_X1_setTerm (d : Nat) (I : mI) (L : mL) (f : Nat) (hF : isF f) (w v : Int32) : mm_Call (d + 2) 7 [.ref f, .int w, .int v] (mm_sh, mm_R, I, L) none (mm_sh, mm_R, (x_term I f w v), L) := by
  refine mm_Call.of_go (d := d + 1) me_7 ⟨Nat.le_of_ble_eq_true rfl, rfl⟩ ?_
  show mm_Go mm_cs0 _ _ _ _ _ _ [some (.ref _), some (.int _), some (.int _)] [] _ _ _
  refine go_iload_n dX1_setTerm_0 rfl ?_
  refine go_call (kind := 0) (args := [.int _]) (rest := _) dX1_setTerm_1 (Or.inl ⟨rfl, rfl⟩) mk_1_67 (by decide) me_103 rfl rfl rfl rfl rfl rfl (ok_X8_isTerm _ _ _ _) rfl ?_
  refine go_ifc (t := 14) dX1_setTerm_4 (by decide) c1_eq (fun h1 => ?_) (fun h1 => ?_)
  · refine go_vret dX1_setTerm_14 rfl ?_ ?_
    · first | with_reducible rfl | (rw [x_term, if_pos (Classical.not_not.mp (fun z => h1 (bi_0.mpr z))), mm_u_sr]; done) | (rw [x_term, if_neg (bi_0.mp h1)]; done)
    · first | with_reducible rfl | (rw [x_term, if_pos (Classical.not_not.mp (fun z => h1 (bi_0.mpr z))), mm_u_sr]; done) | (rw [x_term, if_neg (bi_0.mp h1)]; done)
  · refine go_aload_n dX1_setTerm_7 rfl ?_
    refine go_gr dX1_setTerm_8 mf_1_23 rfl hF.1 hF.2.2.2.2.2.1 ?_
    refine go_iload_n dX1_setTerm_11 rfl ?_
    refine go_iload_n dX1_setTerm_12 rfl ?_
    refine go_ias dX1_setTerm_13 hF.2.2.2.2.2.2.1 (mm_in_4.mpr (Classical.not_not.mp (fun z => h1 (bi_0.mpr z)))) ?_
    refine go_vret dX1_setTerm_14 rfl ?_ ?_
    · first | with_reducible rfl | (rw [x_term, if_pos (Classical.not_not.mp (fun z => h1 (bi_0.mpr z))), mm_u_sr]; done) | (rw [x_term, if_neg (bi_0.mp h1)]; done)
    · first | with_reducible rfl | (rw [x_term, if_pos (Classical.not_not.mp (fun z => h1 (bi_0.mpr z))), mm_u_sr]; done) | (rw [x_term, if_neg (bi_0.mp h1)]; done)

set_option maxHeartbeats 1000000 in
theorem ok_X1_draw (d : Nat) (I : mI) (L : mL) (f : Nat) (hf : mm_sh[f]? = some (1, 0)) (b : Int32) (hb : 0 < b) (hb0 : ¬ b = 0) : mm_Call (d + 1) 8 [.ref f, .int b] (mm_sh, mm_R, I, L) (some (.int (i_draw (i_next (I f 7)) b))) (mm_sh, mm_R, (sr I f (upd (I f) 7 (i_next (I f 7)))), L) := by
  refine mm_Call.of_go (d := d + 0) me_8 ⟨Nat.le_of_ble_eq_true rfl, rfl⟩ ?_
  show mm_Go mm_cs0 _ _ _ _ _ _ [some (.ref _), some (.int _)] [] _ _ _
  refine go_aload_n dX1_draw_0 rfl ?_
  refine go_aload_n dX1_draw_1 rfl ?_
  refine go_gi dX1_draw_2 mf_1_27 (by decide) hf ?_
  refine go_ldc dX1_draw_5 rfl ?_
  refine go_pu (st' := .int _ :: _) dX1_draw_7 rfl ?_
  refine go_pu (st' := .int (12345) :: _) dX1_draw_8 rfl ?_
  refine go_pu (st' := .int _ :: _) dX1_draw_11 rfl ?_
  refine go_pi dX1_draw_12 mf_1_27 rfl rfl hf ?_
  refine go_iload_n dX1_draw_15 rfl ?_
  refine go_ifc (t := 31) dX1_draw_16 (by decide) c1_le (fun h1 => ?_) (fun h1 => ?_)
  · exact absurd hb (Int32.not_lt.mpr h1)
  · have h1' := Int32.not_le.mp h1
    refine go_aload_n dX1_draw_19 rfl ?_
    refine go_gi dX1_draw_20 mf_1_27 (by decide) hf ?_
    refine go_pu (st' := .int (16) :: _) dX1_draw_23 rfl ?_
    refine go_pu (st' := .int _ :: _) dX1_draw_25 rfl ?_
    refine go_iload_n dX1_draw_26 rfl ?_
    refine go_pu (st' := .int _ :: _) dX1_draw_27 (by unfold mm_pu mm_2i; dsimp only; rw [if_neg hb0]) ?_
    refine go_goto (t := 32) dX1_draw_28 (by decide) ?_
    refine go_iret dX1_draw_32 rfl ?_ ?_
    · first | with_reducible rfl | (simp [mm_u_sr, sr_same, sr_sr, up_s, up_o, sr_other, up_up, i_draw, i_up, i_next]; done)
    · first | with_reducible rfl | (simp [mm_u_sr, sr_same, sr_sr, up_s, up_o, sr_other, up_up, i_draw, i_up, i_next]; done)

set_option maxHeartbeats 1000000 in
theorem ok_X1_addChild (d : Nat) (I : mI) (L : mL) (f : Nat) (hF : isF f) (k a l : Int32) (hp : 0 ≤ I f 1 ∧ I f 1 < 8) : mm_Call (d + 2) 5 [.ref f, .int k, .int a, .int l] (mm_sh, mm_R, I, L) (some (.int (I f 1))) (mm_sh, mm_R, x_addC I f k a l, L) := by
  obtain ⟨hf, f1, f2, f3, f4, f5, f6, f7⟩ := hF
  have hi8 : mm_in (I f 1) 8 = true := mm_in_8.mpr hp
  have hlt := mm_in_lt hi8
  have hn : f + 4 + (I f 1).toNatClampNeg ≠ f := by omega
  have hn' : f ≠ f + 4 + (I f 1).toNatClampNeg := by omega
  obtain ⟨hj1, hj2, hj3, hj4⟩ := f7 _ hlt
  refine mm_Call.of_go (d := d + 1) me_5 ⟨Nat.le_of_ble_eq_true rfl, rfl⟩ ?_
  show mm_Go mm_cs0 _ _ _ _ _ _ [some (.ref _), some (.int _), some (.int _), some (.int _), none, none] [] _ _ _
  by_cases hq : 0 ≤ I f 1 ∧ I f 1 < I f 3
  · skip
    refine go_aload_n dX1_addChild_0 rfl ?_
    refine go_gi dX1_addChild_1 mf_1_33 (by decide) (by first | exact hf | exact f2 | exact hj2) ?_
    refine go_pu (st' := .int (8) :: _) dX1_addChild_4 rfl ?_
    refine go_icc (t := 11) dX1_addChild_6 (by decide) c2_lt (fun h1 => ?_) (fun h1 => ?_)
    · have h1' := Int32.not_le.mpr h1
      refine go_aload_n dX1_addChild_11 rfl ?_
      refine go_gi dX1_addChild_12 mf_1_33 (by decide) (by first | exact hf | exact f2 | exact hj2) ?_
      refine go_istore (ls' := [some (.ref _), some (.int _), some (.int _), some (.int _), some (.int _), none]) dX1_addChild_15 rfl (Nat.le_of_ble_eq_true rfl) ?_
      refine go_aload_n dX1_addChild_17 rfl ?_
      refine go_gr dX1_addChild_18 mf_1_11 rfl (by first | exact hf | exact f2 | exact hj2) f1 ?_
      refine go_iload dX1_addChild_21 rfl ?_
      refine go_aal dX1_addChild_23 (by first | exact hf | exact f2 | exact hj2) (by decide) hi8 hj1 ?_
      refine go_astore (ls' := [some (.ref _), some (.int _), some (.int _), some (.int _), some (.int _), some (.ref _)]) dX1_addChild_24 rfl (Nat.le_of_ble_eq_true rfl) ?_
      refine go_aload dX1_addChild_26 rfl ?_
      refine go_iload_n dX1_addChild_28 rfl ?_
      refine go_pi dX1_addChild_29 mf_1_39 rfl rfl (by first | exact hf | exact f2 | exact hj2) ?_
      refine go_aload dX1_addChild_32 rfl ?_
      refine go_iload_n dX1_addChild_34 rfl ?_
      refine go_pi dX1_addChild_35 mf_1_42 rfl rfl (by first | exact hf | exact f2 | exact hj2) ?_
      refine go_aload dX1_addChild_38 rfl ?_
      refine go_iload_n dX1_addChild_40 rfl ?_
      refine go_pi dX1_addChild_41 mf_1_45 rfl rfl (by first | exact hf | exact f2 | exact hj2) ?_
      refine go_aload dX1_addChild_44 rfl ?_
      refine go_aload_n dX1_addChild_46 rfl ?_
      refine go_iload dX1_addChild_47 rfl ?_
      refine go_call (kind := 1) (args := [.ref _, .int _]) (rest := _) dX1_addChild_49 (Or.inr (Or.inl ⟨rfl, rfl⟩)) mk_1_48 (by decide) me_4 rfl rfl rfl rfl rfl (mm_rc_of (by first | exact hf | exact f2 | exact hj2)) (ok_X1_hasSack _ _ _ _ hf _) rfl ?_
      refine go_ifc (t := 60) dX1_addChild_52 (by decide) c1_eq (fun h2 => ?_) (fun h2 => ?_)
      · (rw [bi_0] at h2; exact absurd (by simpa [mm_u_sr, sr_same, sr_sr, up_s, up_o, sr_other, up_up, hn, hn'] using hq) h2)
      · refine go_iload dX1_addChild_55 rfl ?_
        refine go_goto (t := 61) dX1_addChild_57 (by decide) ?_
        refine go_pi dX1_addChild_61 mf_1_52 rfl rfl (by first | exact hf | exact f2 | exact hj2) ?_
        refine go_aload dX1_addChild_64 rfl ?_
        refine go_pu (st' := .int (0) :: _) dX1_addChild_66 rfl ?_
        refine go_pi dX1_addChild_67 mf_1_55 rfl rfl (by first | exact hf | exact f2 | exact hj2) ?_
        refine go_aload dX1_addChild_70 rfl ?_
        refine go_pu (st' := .int (0) :: _) dX1_addChild_72 rfl ?_
        refine go_pi dX1_addChild_73 mf_1_58 rfl rfl (by first | exact hf | exact f2 | exact hj2) ?_
        refine go_aload_n dX1_addChild_76 rfl ?_
        refine go_pu dX1_addChild_77 rfl ?_
        refine go_gi dX1_addChild_78 mf_1_33 (by decide) (by first | exact hf | exact f2 | exact hj2) ?_
        refine go_pu (st' := .int (1) :: _) dX1_addChild_81 rfl ?_
        refine go_pu (st' := .int _ :: _) dX1_addChild_82 rfl ?_
        refine go_pi dX1_addChild_83 mf_1_33 rfl rfl (by first | exact hf | exact f2 | exact hj2) ?_
        refine go_iload dX1_addChild_86 rfl ?_
        refine go_iret dX1_addChild_88 rfl ?_ ?_
        · first | with_reducible rfl | (rw [x_addC, if_pos hq]; simp [mm_u_sr, sr_same, sr_sr, up_s, up_o, sr_other, up_up, hn, hn']; done)
        · first | with_reducible rfl | (rw [x_addC, if_pos hq]; simp [mm_u_sr, sr_same, sr_sr, up_s, up_o, sr_other, up_up, hn, hn']; done)
    · exact absurd hp.2 h1
  · skip
    refine go_aload_n dX1_addChild_0 rfl ?_
    refine go_gi dX1_addChild_1 mf_1_33 (by decide) (by first | exact hf | exact f2 | exact hj2) ?_
    refine go_pu (st' := .int (8) :: _) dX1_addChild_4 rfl ?_
    refine go_icc (t := 11) dX1_addChild_6 (by decide) c2_lt (fun h1 => ?_) (fun h1 => ?_)
    · have h1' := Int32.not_le.mpr h1
      refine go_aload_n dX1_addChild_11 rfl ?_
      refine go_gi dX1_addChild_12 mf_1_33 (by decide) (by first | exact hf | exact f2 | exact hj2) ?_
      refine go_istore (ls' := [some (.ref _), some (.int _), some (.int _), some (.int _), some (.int _), none]) dX1_addChild_15 rfl (Nat.le_of_ble_eq_true rfl) ?_
      refine go_aload_n dX1_addChild_17 rfl ?_
      refine go_gr dX1_addChild_18 mf_1_11 rfl (by first | exact hf | exact f2 | exact hj2) f1 ?_
      refine go_iload dX1_addChild_21 rfl ?_
      refine go_aal dX1_addChild_23 (by first | exact hf | exact f2 | exact hj2) (by decide) hi8 hj1 ?_
      refine go_astore (ls' := [some (.ref _), some (.int _), some (.int _), some (.int _), some (.int _), some (.ref _)]) dX1_addChild_24 rfl (Nat.le_of_ble_eq_true rfl) ?_
      refine go_aload dX1_addChild_26 rfl ?_
      refine go_iload_n dX1_addChild_28 rfl ?_
      refine go_pi dX1_addChild_29 mf_1_39 rfl rfl (by first | exact hf | exact f2 | exact hj2) ?_
      refine go_aload dX1_addChild_32 rfl ?_
      refine go_iload_n dX1_addChild_34 rfl ?_
      refine go_pi dX1_addChild_35 mf_1_42 rfl rfl (by first | exact hf | exact f2 | exact hj2) ?_
      refine go_aload dX1_addChild_38 rfl ?_
      refine go_iload_n dX1_addChild_40 rfl ?_
      refine go_pi dX1_addChild_41 mf_1_45 rfl rfl (by first | exact hf | exact f2 | exact hj2) ?_
      refine go_aload dX1_addChild_44 rfl ?_
      refine go_aload_n dX1_addChild_46 rfl ?_
      refine go_iload dX1_addChild_47 rfl ?_
      refine go_call (kind := 1) (args := [.ref _, .int _]) (rest := _) dX1_addChild_49 (Or.inr (Or.inl ⟨rfl, rfl⟩)) mk_1_48 (by decide) me_4 rfl rfl rfl rfl rfl (mm_rc_of (by first | exact hf | exact f2 | exact hj2)) (ok_X1_hasSack _ _ _ _ hf _) rfl ?_
      refine go_ifc (t := 60) dX1_addChild_52 (by decide) c1_eq (fun h2 => ?_) (fun h2 => ?_)
      · refine go_pu (st' := .int (0) :: _) dX1_addChild_60 rfl ?_
        refine go_pi dX1_addChild_61 mf_1_52 rfl rfl (by first | exact hf | exact f2 | exact hj2) ?_
        refine go_aload dX1_addChild_64 rfl ?_
        refine go_pu (st' := .int (0) :: _) dX1_addChild_66 rfl ?_
        refine go_pi dX1_addChild_67 mf_1_55 rfl rfl (by first | exact hf | exact f2 | exact hj2) ?_
        refine go_aload dX1_addChild_70 rfl ?_
        refine go_pu (st' := .int (0) :: _) dX1_addChild_72 rfl ?_
        refine go_pi dX1_addChild_73 mf_1_58 rfl rfl (by first | exact hf | exact f2 | exact hj2) ?_
        refine go_aload_n dX1_addChild_76 rfl ?_
        refine go_pu dX1_addChild_77 rfl ?_
        refine go_gi dX1_addChild_78 mf_1_33 (by decide) (by first | exact hf | exact f2 | exact hj2) ?_
        refine go_pu (st' := .int (1) :: _) dX1_addChild_81 rfl ?_
        refine go_pu (st' := .int _ :: _) dX1_addChild_82 rfl ?_
        refine go_pi dX1_addChild_83 mf_1_33 rfl rfl (by first | exact hf | exact f2 | exact hj2) ?_
        refine go_iload dX1_addChild_86 rfl ?_
        refine go_iret dX1_addChild_88 rfl ?_ ?_
        · first | with_reducible rfl | (rw [x_addC, if_neg hq]; simp [mm_u_sr, sr_same, sr_sr, up_s, up_o, sr_other, up_up, hn, hn']; done)
        · first | with_reducible rfl | (rw [x_addC, if_neg hq]; simp [mm_u_sr, sr_same, sr_sr, up_s, up_o, sr_other, up_up, hn, hn']; done)
      · exact absurd (bi_0.mpr (by simpa [mm_u_sr, sr_same, sr_sr, up_s, up_o, sr_other, up_up, hn, hn'] using hq)) h2
    · exact absurd hp.2 h1
