/-! LAYER A: one field becomes another -/
/-- the first n children of f as those of g -/
def x_bcC (f g : Nat) : Nat → mI → mI
  | 0, I => I
  | n + 1, I => sr (x_bcC f g n I) (f + 4 + (nI n).toNatClampNeg) (c_become (x_bcC f g n I (f + 4 + (nI n).toNatClampNeg)) (x_bcC f g n I (g + 4 + (nI n).toNatClampNeg)))
def x_bcS1 (I : mI) (a b : Nat) : mI := mm_u (mm_u I a 0 (I b 0)) a 1 (mm_u I a 0 (I b 0) b 1)
def x_bcS (f g : Nat) : Nat → mI → mI
  | 0, I => I
  | n + 1, I => x_bcS1 (x_bcS f g n I) (f + 12 + (nI n).toNatClampNeg) (g + 12 + (nI n).toNatClampNeg)
def x_bc1 (I : mI) (f g : Nat) : mI := x_bcC f g 8 (mm_u I f 1 (I g 1))
def x_bc2 (I : mI) (f g : Nat) : mI := x_bcS f g 8 (mm_u (x_bc1 I f g) f 3 (x_bc1 I f g g 3))
def x_bc3 (I : mI) (f g : Nat) : mI := mm_cy (x_bc2 I f g) (g + 3) (f + 3) 0 0 4
def x_bc4 (I : mI) (f g : Nat) : mI := mm_u (x_bc3 I f g) f 5 (x_bc3 I f g g 5)
def x_bc5 (I : mI) (f g : Nat) : mI := mm_u (x_bc4 I f g) f 6 (x_bc4 I f g g 6)
def x_bc (I : mI) (f g : Nat) : mI := mm_u (x_bc5 I f g) f 7 (x_bc5 I f g g 7)

set_option maxHeartbeats 1000000 in
theorem lp_X1_becomeC (d : Nat) (I : mI) (L : mL) (f g : Nat) (hF : isF f) (hG : isF g) (hfg : g + 20 ≤ f ∨ f + 20 ≤ g) (r0 : Option Value) (M0 : mm_M) (hK : mm_Go mm_cs0 (d + 1) 1 false none cX1_become 37 [some (.ref f), some (.ref g), some (.int (nI 8))] [] (mm_sh, mm_R, x_bcC f g 8 I, L) r0 M0) : ∀ n i : Nat, i + n = 8 → mm_Go mm_cs0 (d + 1) 1 false none cX1_become 10 [some (.ref f), some (.ref g), some (.int (nI i))] [] (mm_sh, mm_R, x_bcC f g i I, L) r0 M0 := by
  obtain ⟨hf, f1, f2, f3, f4, f5, f6, f7⟩ := hF
  obtain ⟨hg, g1, g2, g3, g4, g5, g6, g7⟩ := hG
  intro n
  induction n with
  | zero =>
    intro i hi
    obtain rfl : i = 8 := by omega
    refine go_iload_n dX1_become_10 rfl ?_
    refine go_pu (st' := .int (8) :: _) dX1_become_11 rfl ?_
    refine go_icc (t := 37) dX1_become_13 (by decide) c2_ge (fun h1 => ?_) (fun h1 => ?_)
    · have h1' := Int32.not_lt.mpr h1
      exact hK
    · exact absurd (by decide) h1
  | succ n ih =>
    intro i hi
    have hc : ¬ (8 : Int32) ≤ nI i := nI_ge (a := i) (b := 8) (by omega) (by omega)
    have hi8 : mm_in (nI i) 8 = true := mm_in_8.mpr ⟨nI_pos' (by omega), nI_lt (b := 8) (by omega) (by omega)⟩
    obtain ⟨hj1, hj2, hj3, hj4⟩ := f7 _ (mm_in_lt hi8)
    obtain ⟨hk1, hk2, hk3, hk4⟩ := g7 _ (mm_in_lt hi8)
    have hlt := mm_in_lt hi8
    have hne : g + 4 + (nI i).toNatClampNeg ≠ f + 4 + (nI i).toNatClampNeg := by omega
    refine go_iload_n dX1_become_10 rfl ?_
    refine go_pu (st' := .int (8) :: _) dX1_become_11 rfl ?_
    refine go_icc (t := 37) dX1_become_13 (by decide) c2_ge (fun h1 => ?_) (fun h1 => ?_)
    · exact absurd h1 hc
    · have h1' := Int32.not_le.mp h1
      refine go_aload_n dX1_become_16 rfl ?_
      refine go_gr dX1_become_17 mf_1_11 rfl hf f1 ?_
      refine go_iload_n dX1_become_20 rfl ?_
      refine go_aal dX1_become_21 f2 (by decide) hi8 hj1 ?_
      refine go_aload_n dX1_become_22 rfl ?_
      refine go_gr dX1_become_23 mf_1_11 rfl hg g1 ?_
      refine go_iload_n dX1_become_26 rfl ?_
      refine go_aal dX1_become_27 g2 (by decide) hi8 hk1 ?_
      refine go_call (kind := 1) (args := [.ref _, .ref _]) (rest := _) dX1_become_28 (Or.inr (Or.inl ⟨rfl, rfl⟩)) mk_1_71 (by decide) me_1 rfl rfl rfl rfl rfl (mm_rc_of hj2) (ok_X0_become _ _ _ _ _ hj2 hk2 hne) rfl ?_
      refine go_iinc (v := (1)) (ls' := [some (.ref _), some (.ref _), some (.int _)]) dX1_become_31 rfl (by decide) rfl ?_
      refine go_goto (t := 10) dX1_become_34 (by decide) ?_
      (rw [nI_1]; exact ih (i + 1) (by omega))

set_option maxHeartbeats 1000000 in
theorem lp_X1_becomeS (d : Nat) (I : mI) (L : mL) (f g : Nat) (hF : isF f) (hG : isF g) (hfg : g + 20 ≤ f ∨ f + 20 ≤ g) (r0 : Option Value) (M0 : mm_M) (hK : mm_Go mm_cs0 (d + 1) 1 false none cX1_become 95 [some (.ref f), some (.ref g), some (.int (nI 8))] [] (mm_sh, mm_R, x_bcS f g 8 I, L) r0 M0) : ∀ n i : Nat, i + n = 8 → mm_Go mm_cs0 (d + 1) 1 false none cX1_become 47 [some (.ref f), some (.ref g), some (.int (nI i))] [] (mm_sh, mm_R, x_bcS f g i I, L) r0 M0 := by
  obtain ⟨hf, f1, f2, f3, f4, f5, f6, f7⟩ := hF
  obtain ⟨hg, g1, g2, g3, g4, g5, g6, g7⟩ := hG
  intro n
  induction n with
  | zero =>
    intro i hi
    obtain rfl : i = 8 := by omega
    refine go_iload_n dX1_become_47 rfl ?_
    refine go_pu (st' := .int (8) :: _) dX1_become_48 rfl ?_
    refine go_icc (t := 95) dX1_become_50 (by decide) c2_ge (fun h1 => ?_) (fun h1 => ?_)
    · have h1' := Int32.not_lt.mpr h1
      exact hK
    · exact absurd (by decide) h1
  | succ n ih =>
    intro i hi
    have hc : ¬ (8 : Int32) ≤ nI i := nI_ge (a := i) (b := 8) (by omega) (by omega)
    have hi8 : mm_in (nI i) 8 = true := mm_in_8.mpr ⟨nI_pos' (by omega), nI_lt (b := 8) (by omega) (by omega)⟩
    obtain ⟨hj1, hj2, hj3, hj4⟩ := f7 _ (mm_in_lt hi8)
    obtain ⟨hk1, hk2, hk3, hk4⟩ := g7 _ (mm_in_lt hi8)
    have hlt := mm_in_lt hi8
    refine go_iload_n dX1_become_47 rfl ?_
    refine go_pu (st' := .int (8) :: _) dX1_become_48 rfl ?_
    refine go_icc (t := 95) dX1_become_50 (by decide) c2_ge (fun h1 => ?_) (fun h1 => ?_)
    · exact absurd h1 hc
    · have h1' := Int32.not_le.mp h1
      refine go_aload_n dX1_become_53 rfl ?_
      refine go_gr dX1_become_54 mf_1_19 rfl hf f3 ?_
      refine go_iload_n dX1_become_57 rfl ?_
      refine go_aal dX1_become_58 f4 (by decide) hi8 hj3 ?_
      refine go_aload_n dX1_become_59 rfl ?_
      refine go_gr dX1_become_60 mf_1_19 rfl hg g3 ?_
      refine go_iload_n dX1_become_63 rfl ?_
      refine go_aal dX1_become_64 g4 (by decide) hi8 hk3 ?_
      refine go_gi dX1_become_65 mf_1_61 (by decide) hk4 ?_
      refine go_pi dX1_become_68 mf_1_61 rfl rfl hj4 ?_
      refine go_aload_n dX1_become_71 rfl ?_
      refine go_gr dX1_become_72 mf_1_19 rfl hf f3 ?_
      refine go_iload_n dX1_become_75 rfl ?_
      refine go_aal dX1_become_76 f4 (by decide) hi8 hj3 ?_
      refine go_aload_n dX1_become_77 rfl ?_
      refine go_gr dX1_become_78 mf_1_19 rfl hg g3 ?_
      refine go_iload_n dX1_become_81 rfl ?_
      refine go_aal dX1_become_82 g4 (by decide) hi8 hk3 ?_
      refine go_gi dX1_become_83 mf_1_64 (by decide) hk4 ?_
      refine go_pi dX1_become_86 mf_1_64 rfl rfl hj4 ?_
      refine go_iinc (v := (1)) (ls' := [some (.ref _), some (.ref _), some (.int _)]) dX1_become_89 rfl (by decide) rfl ?_
      refine go_goto (t := 47) dX1_become_92 (by decide) ?_
      (rw [nI_1]; exact ih (i + 1) (by omega))

set_option maxHeartbeats 1000000 in
theorem ok_X1_become (d : Nat) (I : mI) (L : mL) (f g : Nat) (hF : isF f) (hG : isF g) (hfg : g + 20 ≤ f ∨ f + 20 ≤ g) (hb : x_bc3 I f g g 5 = 0 ∨ x_bc3 I f g g 5 = 1) : mm_Call (d + 2) 9 [.ref f, .ref g] (mm_sh, mm_R, I, L) none (mm_sh, mm_R, x_bc I f g, L) := by
  have hcy : mm_bi (d + 1) 906 [.ref (g + 3), .int 0, .ref (f + 3), .int 0, .int 4] (mm_sh, mm_R, x_bc2 I f g, L) = some (none, (mm_sh, mm_R, x_bc3 I f g, L)) := by
    have a := hF.2.2.2.2.2.2.1
    have b := hG.2.2.2.2.2.2.1
    simp [mm_bi, a, b, x_bc3]
  refine mm_Call.of_go (d := d + 1) me_9 ⟨Nat.le_of_ble_eq_true rfl, rfl⟩ ?_
  show mm_Go mm_cs0 _ _ _ _ _ _ [some (.ref _), some (.ref _), none] [] _ _ _
  refine go_aload_n dX1_become_0 rfl ?_
  refine go_aload_n dX1_become_1 rfl ?_
  refine go_gi dX1_become_2 mf_1_33 (by decide) hG.1 ?_
  refine go_pi dX1_become_5 mf_1_33 rfl rfl hF.1 ?_
  refine go_pu (st' := .int (0) :: _) dX1_become_8 rfl ?_
  refine go_istore_n (ls' := [some (.ref _), some (.ref _), some (.int _)]) dX1_become_9 rfl (Nat.le_of_ble_eq_true rfl) ?_
  refine lp_X1_becomeC d _ L f g hF hG hfg _ _ ?_ 8 0 (by omega)
  refine go_aload_n dX1_become_37 rfl ?_
  refine go_aload_n dX1_become_38 rfl ?_
  refine go_gi dX1_become_39 mf_1_36 (by decide) hG.1 ?_
  refine go_pi dX1_become_42 mf_1_36 rfl rfl hF.1 ?_
  refine go_pu (st' := .int (0) :: _) dX1_become_45 rfl ?_
  refine go_istore_n (ls' := [some (.ref _), some (.ref _), some (.int _)]) dX1_become_46 rfl (Nat.le_of_ble_eq_true rfl) ?_
  refine lp_X1_becomeS d _ L f g hF hG hfg _ _ ?_ 8 0 (by omega)
  refine go_aload_n dX1_become_95 rfl ?_
  refine go_gr dX1_become_96 mf_1_23 rfl hG.1 hG.2.2.2.2.2.1 ?_
  refine go_pu (st' := .int (0) :: _) dX1_become_99 rfl ?_
  refine go_aload_n dX1_become_100 rfl ?_
  refine go_gr dX1_become_101 mf_1_23 rfl hF.1 hF.2.2.2.2.2.1 ?_
  refine go_pu (st' := .int (0) :: _) dX1_become_104 rfl ?_
  refine go_pu (st' := .int (4) :: _) dX1_become_105 rfl ?_
  refine go_bi (kind := 0) (args := [.ref _, .int _, .ref _, .int _, .int _]) (rest := _) dX1_become_106 (Or.inl ⟨rfl, rfl⟩) mk_1_75 (by decide) rfl rfl rfl rfl hcy rfl ?_
  refine go_aload_n dX1_become_109 rfl ?_
  refine go_aload_n dX1_become_110 rfl ?_
  refine go_gi dX1_become_111 mf_1_81 (by decide) hG.1 ?_
  refine go_pz dX1_become_114 mf_1_81 rfl rfl hb hF.1 ?_
  refine go_aload_n dX1_become_117 rfl ?_
  refine go_aload_n dX1_become_118 rfl ?_
  refine go_gi dX1_become_119 mf_1_85 (by decide) hG.1 ?_
  refine go_pi dX1_become_122 mf_1_85 rfl rfl hF.1 ?_
  refine go_aload_n dX1_become_125 rfl ?_
  refine go_aload_n dX1_become_126 rfl ?_
  refine go_gi dX1_become_127 mf_1_27 (by decide) hG.1 ?_
  refine go_pi dX1_become_130 mf_1_27 rfl rfl hF.1 ?_
  refine go_vret dX1_become_133 rfl ?_ ?_
  · first | with_reducible rfl | rfl
  · first | with_reducible rfl | rfl
