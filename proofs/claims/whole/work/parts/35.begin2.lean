/-! LAYER A: begin, take, the time to the rope -/
theorem up_up (f : mRow) (k : Nat) (x y : Int32) : upd (upd f k x) k y = upd f k y := by
  funext j
  by_cases h : j = k <;> simp [upd, h]
theorem mm_in_lt {x : Int32} {n : Nat} (h : mm_in x n = true) : x.toNatClampNeg < n := by
  unfold mm_in at h
  simp only [Bool.and_eq_true, decide_eq_true_eq] at h
  exact h.2

set_option maxHeartbeats 4000000 in
theorem ok_X4_begin (d : Nat) (I : mI) (L : mL) (r f : Nat) (hra : isRa r) (hF : isF f) (hfr : f + 3 ≠ r) (hk : isKd (I (r + 1) 0)) (hsc : I f 3 ≤ 8) : mm_Call (d + 3) 23 [.ref r, .ref f] (mm_sh, mm_R, I, L) none (mm_sh, mm_R, sr I r (r_begin (I r) (I (r + 1)) (I (f + 3)) (x_slack I f (I (r + 1)) (I r 1)) (x_holes I f (I (r + 1)))), L) := by
  obtain ⟨hr, hw, hc0⟩ := hra
  obtain ⟨hf, f1, f2, f3, f4, f5, f6, f7⟩ := hF
  have hn4 : r + 1 ≠ r := by omega
  have hcs : mm_cs0 (f + 3) = none := by
    have : f + 3 < 138 := by
      have := (List.getElem?_eq_some_iff.mp f6).1
      exact this
    unfold mm_cs0
    split <;> first | rfl | omega
  refine mm_Call.of_go (d := d + 2) me_23 ⟨Nat.le_of_ble_eq_true rfl, rfl⟩ ?_
  show mm_Go mm_cs0 _ _ _ _ _ _ [some (.ref _), some (.ref _), none, none, none] [] _ _ _
  by_cases hp : 0 ≤ I (r + 1) 3 ∧ I (r + 1) 3 < I f 3
  · have hi8 : mm_in (I (r + 1) 3) 8 = true := mm_in_8.mpr ⟨hp.1, Int32.lt_of_lt_of_le hp.2 hsc⟩
    obtain ⟨hj1, hj2, hj3, hj4⟩ := f7 _ (mm_in_lt hi8)
    refine go_aload_n dX4_begin_0 rfl ?_
    refine go_aload_n dX4_begin_1 rfl ?_
    refine go_gr dX4_begin_2 mf_4_12 rfl (by first | rfl | assumption | (simp only [*]; done)) (by first | rfl | assumption | (simp only [*]; done)) ?_
    refine go_gi dX4_begin_5 mf_4_44 (by decide) (by first | rfl | assumption | (simp only [*]; done)) ?_
    refine go_call (kind := 1) (args := [.ref _, .int _]) (rest := _) dX4_begin_8 (Or.inr (Or.inl ⟨rfl, rfl⟩)) mk_4_47 (by decide) me_4 rfl rfl rfl rfl rfl (mm_rc_of (by first | rfl | assumption | (simp only [*]; done))) (ok_X1_hasSack _ _ _ _ hf _) rfl ?_
    refine go_istore_n (ls' := [some (.ref _), some (.ref _), some (.int _), none, none]) dX4_begin_11 rfl (Nat.le_of_ble_eq_true rfl) ?_
    refine go_iload_n dX4_begin_12 rfl ?_
    refine go_ifc (t := 50) dX4_begin_13 (by decide) c1_eq (fun h1 => ?_) (fun h1 => ?_)
    · exact absurd (bi_0.mp h1) (Classical.not_not.mpr hp)
    · refine go_aload_n dX4_begin_16 rfl ?_
      refine go_gr dX4_begin_17 mf_4_50 rfl (by first | rfl | assumption | (simp only [*]; done)) (by first | rfl | assumption | (simp only [*]; done)) ?_
      refine go_aload_n dX4_begin_20 rfl ?_
      refine go_gr dX4_begin_21 mf_4_12 rfl (by first | rfl | assumption | (simp only [*]; done)) (by first | rfl | assumption | (simp only [*]; done)) ?_
      refine go_gi dX4_begin_24 mf_4_44 (by decide) (by first | rfl | assumption | (simp only [*]; done)) ?_
      refine go_aal dX4_begin_27 (by first | rfl | assumption | (simp only [*]; done)) (by decide) hi8 hj3 ?_
      refine go_gi dX4_begin_28 mf_4_54 (by decide) (by first | rfl | assumption | (simp only [*]; done)) ?_
      refine go_aload_n dX4_begin_31 rfl ?_
      refine go_gr dX4_begin_32 mf_4_12 rfl (by first | rfl | assumption | (simp only [*]; done)) (by first | rfl | assumption | (simp only [*]; done)) ?_
      refine go_gi dX4_begin_35 mf_4_59 (by decide) (by first | rfl | assumption | (simp only [*]; done)) ?_
      refine go_pu (st' := .int _ :: _) dX4_begin_38 rfl ?_
      refine go_bi (kind := 0) (args := [.int _]) (rest := _) dX4_begin_39 (Or.inl ⟨rfl, rfl⟩) mk_4_62 (by decide) rfl rfl rfl rfl rfl rfl ?_
      refine go_aload_n dX4_begin_42 rfl ?_
      refine go_gi dX4_begin_43 mf_4_36 (by decide) (by first | rfl | assumption | (simp only [*]; done)) ?_
      refine go_pu (st' := .int _ :: _) dX4_begin_46 rfl ?_
      refine go_goto (t := 51) dX4_begin_47 (by decide) ?_
      refine go_istore_n (ls' := [some (.ref _), some (.ref _), some (.int _), some (.int _), none]) dX4_begin_51 rfl (Nat.le_of_ble_eq_true rfl) ?_
      refine go_iload_n dX4_begin_52 rfl ?_
      refine go_ifc (t := 74) dX4_begin_53 (by decide) c1_eq (fun h2 => ?_) (fun h2 => ?_)
      · exact absurd (bi_0.mp h2) (Classical.not_not.mpr hp)
      · refine go_aload_n dX4_begin_56 rfl ?_
        refine go_gr dX4_begin_57 mf_4_50 rfl (by first | rfl | assumption | (simp only [*]; done)) (by first | rfl | assumption | (simp only [*]; done)) ?_
        refine go_aload_n dX4_begin_60 rfl ?_
        refine go_gr dX4_begin_61 mf_4_12 rfl (by first | rfl | assumption | (simp only [*]; done)) (by first | rfl | assumption | (simp only [*]; done)) ?_
        refine go_gi dX4_begin_64 mf_4_44 (by decide) (by first | rfl | assumption | (simp only [*]; done)) ?_
        refine go_aal dX4_begin_67 (by first | rfl | assumption | (simp only [*]; done)) (by decide) hi8 hj3 ?_
        refine go_gi dX4_begin_68 mf_4_68 (by decide) (by first | rfl | assumption | (simp only [*]; done)) ?_
        refine go_goto (t := 75) dX4_begin_71 (by decide) ?_
        refine go_istore (ls' := [some (.ref _), some (.ref _), some (.int _), some (.int _), some (.int _)]) dX4_begin_75 rfl (Nat.le_of_ble_eq_true rfl) ?_
        refine go_aload_n dX4_begin_77 rfl ?_
        refine go_aload_n dX4_begin_78 rfl ?_
        refine go_gr dX4_begin_79 mf_4_12 rfl (by first | rfl | assumption | (simp only [*]; done)) (by first | rfl | assumption | (simp only [*]; done)) ?_
        refine go_iload_n dX4_begin_82 rfl ?_
        refine go_call (kind := 0) (args := [.ref _, .int _]) (rest := _) dX4_begin_83 (Or.inl ⟨rfl, rfl⟩) mk_4_71 (by decide) me_24 rfl rfl rfl rfl rfl rfl (ok_X4_strideOf _ _ _ _ hc0 _ (by first | exact hk | simpa [mm_u_sr, sr_same, sr_sr, up_s, up_o, sr_other, up_up, hn4] using hk)) rfl ?_
        refine go_pi dX4_begin_86 mf_4_75 rfl rfl (by first | rfl | assumption | (simp only [*]; done)) ?_
        refine go_aload_n dX4_begin_89 rfl ?_
        refine go_aload_n dX4_begin_90 rfl ?_
        refine go_gr dX4_begin_91 mf_4_12 rfl (by first | rfl | assumption | (simp only [*]; done)) (by first | rfl | assumption | (simp only [*]; done)) ?_
        refine go_gi dX4_begin_94 mf_4_78 (by decide) (by first | rfl | assumption | (simp only [*]; done)) ?_
        refine go_call (kind := 0) (args := [.int _]) (rest := _) dX4_begin_97 (Or.inl ⟨rfl, rfl⟩) mk_4_81 (by decide) me_25 rfl rfl rfl rfl rfl rfl (ok_X4_puffOf _ _ _ _ (by first | exact hk | simpa [mm_u_sr, sr_same, sr_sr, up_s, up_o, sr_other, up_up, hn4] using hk)) rfl ?_
        refine go_pi dX4_begin_100 mf_4_84 rfl rfl (by first | rfl | assumption | (simp only [*]; done)) ?_
        refine go_aload_n dX4_begin_103 rfl ?_
        refine go_pu (st' := .int (5) :: _) dX4_begin_104 rfl ?_
        refine go_iload_n dX4_begin_105 rfl ?_
        refine go_pu (st' := .int _ :: _) dX4_begin_106 rfl ?_
        refine go_pu (st' := .int (3) :: _) dX4_begin_107 rfl ?_
        refine go_iload dX4_begin_108 rfl ?_
        refine go_pu (st' := .int _ :: _) dX4_begin_110 rfl ?_
        refine go_pu (st' := .int _ :: _) dX4_begin_111 rfl ?_
        refine go_aload_n dX4_begin_112 rfl ?_
        refine go_gi dX4_begin_113 mf_4_75 (by decide) (by first | rfl | assumption | (simp only [*]; done)) ?_
        refine go_pu (st' := .int _ :: _) dX4_begin_116 rfl ?_
        refine go_pi dX4_begin_117 mf_4_87 rfl rfl (by first | rfl | assumption | (simp only [*]; done)) ?_
        refine go_aload_n dX4_begin_120 rfl ?_
        refine go_gr dX4_begin_121 mf_4_12 rfl (by first | rfl | assumption | (simp only [*]; done)) (by first | rfl | assumption | (simp only [*]; done)) ?_
        refine go_gi dX4_begin_124 mf_4_78 (by decide) (by first | rfl | assumption | (simp only [*]; done)) ?_
        refine go_pu (st' := .int (4) :: _) dX4_begin_127 rfl ?_
        refine go_call (kind := 0) (args := [.int _, .int _]) (rest := _) dX4_begin_128 (Or.inl ⟨rfl, rfl⟩) mk_4_90 (by decide) me_104 rfl rfl rfl rfl rfl rfl (ok_X8_isUnder _ _ _ _ _) rfl ?_
        refine go_ifc (t := 144) dX4_begin_131 (by decide) c1_eq (fun h3 => ?_) (fun h3 => ?_)
        · refine go_aload_n dX4_begin_144 rfl ?_
          refine go_aload_n dX4_begin_145 rfl ?_
          refine go_gr dX4_begin_146 mf_4_94 rfl (by first | rfl | assumption | (simp only [*]; done)) (by first | rfl | assumption | (simp only [*]; done)) ?_
          refine go_pu (st' := .int (0) :: _) dX4_begin_149 rfl ?_
          refine go_ial dX4_begin_150 hcs (by first | rfl | assumption | (simp only [*]; done)) (by decide) ?_
          refine go_pi dX4_begin_151 mf_4_98 rfl rfl (by first | rfl | assumption | (simp only [*]; done)) ?_
          refine go_aload_n dX4_begin_154 rfl ?_
          refine go_aload_n dX4_begin_155 rfl ?_
          refine go_gr dX4_begin_156 mf_4_94 rfl (by first | rfl | assumption | (simp only [*]; done)) (by first | rfl | assumption | (simp only [*]; done)) ?_
          refine go_pu (st' := .int (1) :: _) dX4_begin_159 rfl ?_
          refine go_ial dX4_begin_160 hcs (by first | rfl | assumption | (simp only [*]; done)) (by decide) ?_
          refine go_pi dX4_begin_161 mf_4_101 rfl rfl (by first | rfl | assumption | (simp only [*]; done)) ?_
          refine go_aload_n dX4_begin_164 rfl ?_
          refine go_pu (st' := .int (0) :: _) dX4_begin_165 rfl ?_
          refine go_aload_n dX4_begin_166 rfl ?_
          refine go_gr dX4_begin_167 mf_4_94 rfl (by first | rfl | assumption | (simp only [*]; done)) (by first | rfl | assumption | (simp only [*]; done)) ?_
          refine go_pu (st' := .int (2) :: _) dX4_begin_170 rfl ?_
          refine go_ial dX4_begin_171 hcs (by first | rfl | assumption | (simp only [*]; done)) (by decide) ?_
          refine go_aload_n dX4_begin_172 rfl ?_
          refine go_gr dX4_begin_173 mf_4_12 rfl (by first | rfl | assumption | (simp only [*]; done)) (by first | rfl | assumption | (simp only [*]; done)) ?_
          refine go_gi dX4_begin_176 mf_4_59 (by decide) (by first | rfl | assumption | (simp only [*]; done)) ?_
          refine go_pu (st' := .int _ :: _) dX4_begin_179 rfl ?_
          refine go_bi (kind := 0) (args := [.int _, .int _]) (rest := _) dX4_begin_180 (Or.inl ⟨rfl, rfl⟩) mk_4_104 (by decide) rfl rfl rfl rfl rfl rfl ?_
          refine go_pi dX4_begin_183 mf_4_108 rfl rfl (by first | rfl | assumption | (simp only [*]; done)) ?_
          refine go_aload_n dX4_begin_186 rfl ?_
          refine go_aload_n dX4_begin_187 rfl ?_
          refine go_gr dX4_begin_188 mf_4_94 rfl (by first | rfl | assumption | (simp only [*]; done)) (by first | rfl | assumption | (simp only [*]; done)) ?_
          refine go_pu (st' := .int (3) :: _) dX4_begin_191 rfl ?_
          refine go_ial dX4_begin_192 hcs (by first | rfl | assumption | (simp only [*]; done)) (by decide) ?_
          refine go_pi dX4_begin_193 mf_4_111 rfl rfl (by first | rfl | assumption | (simp only [*]; done)) ?_
          refine go_aload_n dX4_begin_196 rfl ?_
          refine go_aload_n dX4_begin_197 rfl ?_
          refine go_gr dX4_begin_198 mf_4_12 rfl (by first | rfl | assumption | (simp only [*]; done)) (by first | rfl | assumption | (simp only [*]; done)) ?_
          refine go_gi dX4_begin_201 mf_4_114 (by decide) (by first | rfl | assumption | (simp only [*]; done)) ?_
          refine go_pi dX4_begin_204 mf_4_117 rfl rfl (by first | rfl | assumption | (simp only [*]; done)) ?_
          refine go_aload_n dX4_begin_207 rfl ?_
          refine go_pu (st' := .int (0) :: _) dX4_begin_208 rfl ?_
          refine go_pi dX4_begin_209 mf_4_120 rfl rfl (by first | rfl | assumption | (simp only [*]; done)) ?_
          refine go_aload_n dX4_begin_212 rfl ?_
          refine go_pu (st' := .int (0) :: _) dX4_begin_213 rfl ?_
          refine go_pi dX4_begin_214 mf_4_123 rfl rfl (by first | rfl | assumption | (simp only [*]; done)) ?_
          refine go_aload_n dX4_begin_217 rfl ?_
          refine go_pu (st' := .int (0) :: _) dX4_begin_218 rfl ?_
          refine go_pi dX4_begin_219 mf_4_126 rfl rfl (by first | rfl | assumption | (simp only [*]; done)) ?_
          refine go_aload_n dX4_begin_222 rfl ?_
          refine go_pu (st' := .int (-1) :: _) dX4_begin_223 rfl ?_
          refine go_pi dX4_begin_224 mf_4_18 rfl rfl (by first | rfl | assumption | (simp only [*]; done)) ?_
          refine go_aload_n dX4_begin_227 rfl ?_
          refine go_pu (st' := .int (0) :: _) dX4_begin_228 rfl ?_
          refine go_pi dX4_begin_229 mf_4_129 rfl rfl (by first | rfl | assumption | (simp only [*]; done)) ?_
          refine go_vret dX4_begin_232 rfl ?_ ?_
          · first | rfl | (simp [r_begin, x_risk, x_slack, x_holes, i_abs, mm_u_sr, sr_same, sr_sr, up_s, up_o, sr_other, up_up, *]; done) | ((try simp [mm_u_sr, sr_same, sr_sr, up_s, up_o, sr_other, up_up, -Int32.not_lt, -Int32.not_le] at *) <;> simp [r_begin, x_risk, x_slack, x_holes, i_abs, mm_u_sr, sr_same, sr_sr, up_s, up_o, sr_other, up_up, *, -Int32.not_lt, -Int32.not_le]; done) | (simp_all [r_begin, x_risk, x_slack, x_holes, i_abs, mm_u_sr, sr_same, sr_sr, up_s, up_o, sr_other, up_up]; done)
          · first | rfl | (simp [r_begin, x_risk, x_slack, x_holes, i_abs, mm_u_sr, sr_same, sr_sr, up_s, up_o, sr_other, up_up, *]; done) | ((try simp [mm_u_sr, sr_same, sr_sr, up_s, up_o, sr_other, up_up, -Int32.not_lt, -Int32.not_le] at *) <;> simp [r_begin, x_risk, x_slack, x_holes, i_abs, mm_u_sr, sr_same, sr_sr, up_s, up_o, sr_other, up_up, *, -Int32.not_lt, -Int32.not_le]; done) | (simp_all [r_begin, x_risk, x_slack, x_holes, i_abs, mm_u_sr, sr_same, sr_sr, up_s, up_o, sr_other, up_up]; done)
        · refine go_aload_n dX4_begin_134 rfl ?_
          refine go_pu dX4_begin_135 rfl ?_
          refine go_gi dX4_begin_136 mf_4_87 (by decide) (by first | rfl | assumption | (simp only [*]; done)) ?_
          refine go_pu (st' := .int (2) :: _) dX4_begin_139 rfl ?_
          refine go_pu (st' := .int _ :: _) dX4_begin_140 rfl ?_
          refine go_pi dX4_begin_141 mf_4_87 rfl rfl (by first | rfl | assumption | (simp only [*]; done)) ?_
          refine go_aload_n dX4_begin_144 rfl ?_
          refine go_aload_n dX4_begin_145 rfl ?_
          refine go_gr dX4_begin_146 mf_4_94 rfl (by first | rfl | assumption | (simp only [*]; done)) (by first | rfl | assumption | (simp only [*]; done)) ?_
          refine go_pu (st' := .int (0) :: _) dX4_begin_149 rfl ?_
          refine go_ial dX4_begin_150 hcs (by first | rfl | assumption | (simp only [*]; done)) (by decide) ?_
          refine go_pi dX4_begin_151 mf_4_98 rfl rfl (by first | rfl | assumption | (simp only [*]; done)) ?_
          refine go_aload_n dX4_begin_154 rfl ?_
          refine go_aload_n dX4_begin_155 rfl ?_
          refine go_gr dX4_begin_156 mf_4_94 rfl (by first | rfl | assumption | (simp only [*]; done)) (by first | rfl | assumption | (simp only [*]; done)) ?_
          refine go_pu (st' := .int (1) :: _) dX4_begin_159 rfl ?_
          refine go_ial dX4_begin_160 hcs (by first | rfl | assumption | (simp only [*]; done)) (by decide) ?_
          refine go_pi dX4_begin_161 mf_4_101 rfl rfl (by first | rfl | assumption | (simp only [*]; done)) ?_
          refine go_aload_n dX4_begin_164 rfl ?_
          refine go_pu (st' := .int (0) :: _) dX4_begin_165 rfl ?_
          refine go_aload_n dX4_begin_166 rfl ?_
          refine go_gr dX4_begin_167 mf_4_94 rfl (by first | rfl | assumption | (simp only [*]; done)) (by first | rfl | assumption | (simp only [*]; done)) ?_
          refine go_pu (st' := .int (2) :: _) dX4_begin_170 rfl ?_
          refine go_ial dX4_begin_171 hcs (by first | rfl | assumption | (simp only [*]; done)) (by decide) ?_
          refine go_aload_n dX4_begin_172 rfl ?_
          refine go_gr dX4_begin_173 mf_4_12 rfl (by first | rfl | assumption | (simp only [*]; done)) (by first | rfl | assumption | (simp only [*]; done)) ?_
          refine go_gi dX4_begin_176 mf_4_59 (by decide) (by first | rfl | assumption | (simp only [*]; done)) ?_
          refine go_pu (st' := .int _ :: _) dX4_begin_179 rfl ?_
          refine go_bi (kind := 0) (args := [.int _, .int _]) (rest := _) dX4_begin_180 (Or.inl ⟨rfl, rfl⟩) mk_4_104 (by decide) rfl rfl rfl rfl rfl rfl ?_
          refine go_pi dX4_begin_183 mf_4_108 rfl rfl (by first | rfl | assumption | (simp only [*]; done)) ?_
          refine go_aload_n dX4_begin_186 rfl ?_
          refine go_aload_n dX4_begin_187 rfl ?_
          refine go_gr dX4_begin_188 mf_4_94 rfl (by first | rfl | assumption | (simp only [*]; done)) (by first | rfl | assumption | (simp only [*]; done)) ?_
          refine go_pu (st' := .int (3) :: _) dX4_begin_191 rfl ?_
          refine go_ial dX4_begin_192 hcs (by first | rfl | assumption | (simp only [*]; done)) (by decide) ?_
          refine go_pi dX4_begin_193 mf_4_111 rfl rfl (by first | rfl | assumption | (simp only [*]; done)) ?_
          refine go_aload_n dX4_begin_196 rfl ?_
          refine go_aload_n dX4_begin_197 rfl ?_
          refine go_gr dX4_begin_198 mf_4_12 rfl (by first | rfl | assumption | (simp only [*]; done)) (by first | rfl | assumption | (simp only [*]; done)) ?_
          refine go_gi dX4_begin_201 mf_4_114 (by decide) (by first | rfl | assumption | (simp only [*]; done)) ?_
          refine go_pi dX4_begin_204 mf_4_117 rfl rfl (by first | rfl | assumption | (simp only [*]; done)) ?_
          refine go_aload_n dX4_begin_207 rfl ?_
          refine go_pu (st' := .int (0) :: _) dX4_begin_208 rfl ?_
          refine go_pi dX4_begin_209 mf_4_120 rfl rfl (by first | rfl | assumption | (simp only [*]; done)) ?_
          refine go_aload_n dX4_begin_212 rfl ?_
          refine go_pu (st' := .int (0) :: _) dX4_begin_213 rfl ?_
          refine go_pi dX4_begin_214 mf_4_123 rfl rfl (by first | rfl | assumption | (simp only [*]; done)) ?_
          refine go_aload_n dX4_begin_217 rfl ?_
          refine go_pu (st' := .int (0) :: _) dX4_begin_218 rfl ?_
          refine go_pi dX4_begin_219 mf_4_126 rfl rfl (by first | rfl | assumption | (simp only [*]; done)) ?_
          refine go_aload_n dX4_begin_222 rfl ?_
          refine go_pu (st' := .int (-1) :: _) dX4_begin_223 rfl ?_
          refine go_pi dX4_begin_224 mf_4_18 rfl rfl (by first | rfl | assumption | (simp only [*]; done)) ?_
          refine go_aload_n dX4_begin_227 rfl ?_
          refine go_pu (st' := .int (0) :: _) dX4_begin_228 rfl ?_
          refine go_pi dX4_begin_229 mf_4_129 rfl rfl (by first | rfl | assumption | (simp only [*]; done)) ?_
          refine go_vret dX4_begin_232 rfl ?_ ?_
          · first | rfl | (simp [r_begin, x_risk, x_slack, x_holes, i_abs, mm_u_sr, sr_same, sr_sr, up_s, up_o, sr_other, up_up, *]; done) | ((try simp [mm_u_sr, sr_same, sr_sr, up_s, up_o, sr_other, up_up, -Int32.not_lt, -Int32.not_le] at *) <;> simp [r_begin, x_risk, x_slack, x_holes, i_abs, mm_u_sr, sr_same, sr_sr, up_s, up_o, sr_other, up_up, *, -Int32.not_lt, -Int32.not_le]; done) | (simp_all [r_begin, x_risk, x_slack, x_holes, i_abs, mm_u_sr, sr_same, sr_sr, up_s, up_o, sr_other, up_up]; done)
          · first | rfl | (simp [r_begin, x_risk, x_slack, x_holes, i_abs, mm_u_sr, sr_same, sr_sr, up_s, up_o, sr_other, up_up, *]; done) | ((try simp [mm_u_sr, sr_same, sr_sr, up_s, up_o, sr_other, up_up, -Int32.not_lt, -Int32.not_le] at *) <;> simp [r_begin, x_risk, x_slack, x_holes, i_abs, mm_u_sr, sr_same, sr_sr, up_s, up_o, sr_other, up_up, *, -Int32.not_lt, -Int32.not_le]; done) | (simp_all [r_begin, x_risk, x_slack, x_holes, i_abs, mm_u_sr, sr_same, sr_sr, up_s, up_o, sr_other, up_up]; done)
  · have hsl : x_slack I f (I (r + 1)) (I r 1) = 0 := if_neg hp
    have hho : x_holes I f (I (r + 1)) = 0 := if_neg hp
    refine go_aload_n dX4_begin_0 rfl ?_
    refine go_aload_n dX4_begin_1 rfl ?_
    refine go_gr dX4_begin_2 mf_4_12 rfl (by first | rfl | assumption | (simp only [*]; done)) (by first | rfl | assumption | (simp only [*]; done)) ?_
    refine go_gi dX4_begin_5 mf_4_44 (by decide) (by first | rfl | assumption | (simp only [*]; done)) ?_
    refine go_call (kind := 1) (args := [.ref _, .int _]) (rest := _) dX4_begin_8 (Or.inr (Or.inl ⟨rfl, rfl⟩)) mk_4_47 (by decide) me_4 rfl rfl rfl rfl rfl (mm_rc_of (by first | rfl | assumption | (simp only [*]; done))) (ok_X1_hasSack _ _ _ _ hf _) rfl ?_
    refine go_istore_n (ls' := [some (.ref _), some (.ref _), some (.int _), none, none]) dX4_begin_11 rfl (Nat.le_of_ble_eq_true rfl) ?_
    refine go_iload_n dX4_begin_12 rfl ?_
    refine go_ifc (t := 50) dX4_begin_13 (by decide) c1_eq (fun h1 => ?_) (fun h1 => ?_)
    · refine go_pu (st' := .int (0) :: _) dX4_begin_50 rfl ?_
      refine go_istore_n (ls' := [some (.ref _), some (.ref _), some (.int _), some (.int _), none]) dX4_begin_51 rfl (Nat.le_of_ble_eq_true rfl) ?_
      refine go_iload_n dX4_begin_52 rfl ?_
      refine go_ifc (t := 74) dX4_begin_53 (by decide) c1_eq (fun h2 => ?_) (fun h2 => ?_)
      · refine go_pu (st' := .int (0) :: _) dX4_begin_74 rfl ?_
        refine go_istore (ls' := [some (.ref _), some (.ref _), some (.int _), some (.int _), some (.int _)]) dX4_begin_75 rfl (Nat.le_of_ble_eq_true rfl) ?_
        refine go_aload_n dX4_begin_77 rfl ?_
        refine go_aload_n dX4_begin_78 rfl ?_
        refine go_gr dX4_begin_79 mf_4_12 rfl (by first | rfl | assumption | (simp only [*]; done)) (by first | rfl | assumption | (simp only [*]; done)) ?_
        refine go_iload_n dX4_begin_82 rfl ?_
        refine go_call (kind := 0) (args := [.ref _, .int _]) (rest := _) dX4_begin_83 (Or.inl ⟨rfl, rfl⟩) mk_4_71 (by decide) me_24 rfl rfl rfl rfl rfl rfl (ok_X4_strideOf _ _ _ _ hc0 _ (by first | exact hk | simpa [mm_u_sr, sr_same, sr_sr, up_s, up_o, sr_other, up_up, hn4] using hk)) rfl ?_
        refine go_pi dX4_begin_86 mf_4_75 rfl rfl (by first | rfl | assumption | (simp only [*]; done)) ?_
        refine go_aload_n dX4_begin_89 rfl ?_
        refine go_aload_n dX4_begin_90 rfl ?_
        refine go_gr dX4_begin_91 mf_4_12 rfl (by first | rfl | assumption | (simp only [*]; done)) (by first | rfl | assumption | (simp only [*]; done)) ?_
        refine go_gi dX4_begin_94 mf_4_78 (by decide) (by first | rfl | assumption | (simp only [*]; done)) ?_
        refine go_call (kind := 0) (args := [.int _]) (rest := _) dX4_begin_97 (Or.inl ⟨rfl, rfl⟩) mk_4_81 (by decide) me_25 rfl rfl rfl rfl rfl rfl (ok_X4_puffOf _ _ _ _ (by first | exact hk | simpa [mm_u_sr, sr_same, sr_sr, up_s, up_o, sr_other, up_up, hn4] using hk)) rfl ?_
        refine go_pi dX4_begin_100 mf_4_84 rfl rfl (by first | rfl | assumption | (simp only [*]; done)) ?_
        refine go_aload_n dX4_begin_103 rfl ?_
        refine go_pu (st' := .int (5) :: _) dX4_begin_104 rfl ?_
        refine go_iload_n dX4_begin_105 rfl ?_
        refine go_pu (st' := .int _ :: _) dX4_begin_106 rfl ?_
        refine go_pu (st' := .int (3) :: _) dX4_begin_107 rfl ?_
        refine go_iload dX4_begin_108 rfl ?_
        refine go_pu (st' := .int _ :: _) dX4_begin_110 rfl ?_
        refine go_pu (st' := .int _ :: _) dX4_begin_111 rfl ?_
        refine go_aload_n dX4_begin_112 rfl ?_
        refine go_gi dX4_begin_113 mf_4_75 (by decide) (by first | rfl | assumption | (simp only [*]; done)) ?_
        refine go_pu (st' := .int _ :: _) dX4_begin_116 rfl ?_
        refine go_pi dX4_begin_117 mf_4_87 rfl rfl (by first | rfl | assumption | (simp only [*]; done)) ?_
        refine go_aload_n dX4_begin_120 rfl ?_
        refine go_gr dX4_begin_121 mf_4_12 rfl (by first | rfl | assumption | (simp only [*]; done)) (by first | rfl | assumption | (simp only [*]; done)) ?_
        refine go_gi dX4_begin_124 mf_4_78 (by decide) (by first | rfl | assumption | (simp only [*]; done)) ?_
        refine go_pu (st' := .int (4) :: _) dX4_begin_127 rfl ?_
        refine go_call (kind := 0) (args := [.int _, .int _]) (rest := _) dX4_begin_128 (Or.inl ⟨rfl, rfl⟩) mk_4_90 (by decide) me_104 rfl rfl rfl rfl rfl rfl (ok_X8_isUnder _ _ _ _ _) rfl ?_
        refine go_ifc (t := 144) dX4_begin_131 (by decide) c1_eq (fun h3 => ?_) (fun h3 => ?_)
        · refine go_aload_n dX4_begin_144 rfl ?_
          refine go_aload_n dX4_begin_145 rfl ?_
          refine go_gr dX4_begin_146 mf_4_94 rfl (by first | rfl | assumption | (simp only [*]; done)) (by first | rfl | assumption | (simp only [*]; done)) ?_
          refine go_pu (st' := .int (0) :: _) dX4_begin_149 rfl ?_
          refine go_ial dX4_begin_150 hcs (by first | rfl | assumption | (simp only [*]; done)) (by decide) ?_
          refine go_pi dX4_begin_151 mf_4_98 rfl rfl (by first | rfl | assumption | (simp only [*]; done)) ?_
          refine go_aload_n dX4_begin_154 rfl ?_
          refine go_aload_n dX4_begin_155 rfl ?_
          refine go_gr dX4_begin_156 mf_4_94 rfl (by first | rfl | assumption | (simp only [*]; done)) (by first | rfl | assumption | (simp only [*]; done)) ?_
          refine go_pu (st' := .int (1) :: _) dX4_begin_159 rfl ?_
          refine go_ial dX4_begin_160 hcs (by first | rfl | assumption | (simp only [*]; done)) (by decide) ?_
          refine go_pi dX4_begin_161 mf_4_101 rfl rfl (by first | rfl | assumption | (simp only [*]; done)) ?_
          refine go_aload_n dX4_begin_164 rfl ?_
          refine go_pu (st' := .int (0) :: _) dX4_begin_165 rfl ?_
          refine go_aload_n dX4_begin_166 rfl ?_
          refine go_gr dX4_begin_167 mf_4_94 rfl (by first | rfl | assumption | (simp only [*]; done)) (by first | rfl | assumption | (simp only [*]; done)) ?_
          refine go_pu (st' := .int (2) :: _) dX4_begin_170 rfl ?_
          refine go_ial dX4_begin_171 hcs (by first | rfl | assumption | (simp only [*]; done)) (by decide) ?_
          refine go_aload_n dX4_begin_172 rfl ?_
          refine go_gr dX4_begin_173 mf_4_12 rfl (by first | rfl | assumption | (simp only [*]; done)) (by first | rfl | assumption | (simp only [*]; done)) ?_
          refine go_gi dX4_begin_176 mf_4_59 (by decide) (by first | rfl | assumption | (simp only [*]; done)) ?_
          refine go_pu (st' := .int _ :: _) dX4_begin_179 rfl ?_
          refine go_bi (kind := 0) (args := [.int _, .int _]) (rest := _) dX4_begin_180 (Or.inl ⟨rfl, rfl⟩) mk_4_104 (by decide) rfl rfl rfl rfl rfl rfl ?_
          refine go_pi dX4_begin_183 mf_4_108 rfl rfl (by first | rfl | assumption | (simp only [*]; done)) ?_
          refine go_aload_n dX4_begin_186 rfl ?_
          refine go_aload_n dX4_begin_187 rfl ?_
          refine go_gr dX4_begin_188 mf_4_94 rfl (by first | rfl | assumption | (simp only [*]; done)) (by first | rfl | assumption | (simp only [*]; done)) ?_
          refine go_pu (st' := .int (3) :: _) dX4_begin_191 rfl ?_
          refine go_ial dX4_begin_192 hcs (by first | rfl | assumption | (simp only [*]; done)) (by decide) ?_
          refine go_pi dX4_begin_193 mf_4_111 rfl rfl (by first | rfl | assumption | (simp only [*]; done)) ?_
          refine go_aload_n dX4_begin_196 rfl ?_
          refine go_aload_n dX4_begin_197 rfl ?_
          refine go_gr dX4_begin_198 mf_4_12 rfl (by first | rfl | assumption | (simp only [*]; done)) (by first | rfl | assumption | (simp only [*]; done)) ?_
          refine go_gi dX4_begin_201 mf_4_114 (by decide) (by first | rfl | assumption | (simp only [*]; done)) ?_
          refine go_pi dX4_begin_204 mf_4_117 rfl rfl (by first | rfl | assumption | (simp only [*]; done)) ?_
          refine go_aload_n dX4_begin_207 rfl ?_
          refine go_pu (st' := .int (0) :: _) dX4_begin_208 rfl ?_
          refine go_pi dX4_begin_209 mf_4_120 rfl rfl (by first | rfl | assumption | (simp only [*]; done)) ?_
          refine go_aload_n dX4_begin_212 rfl ?_
          refine go_pu (st' := .int (0) :: _) dX4_begin_213 rfl ?_
          refine go_pi dX4_begin_214 mf_4_123 rfl rfl (by first | rfl | assumption | (simp only [*]; done)) ?_
          refine go_aload_n dX4_begin_217 rfl ?_
          refine go_pu (st' := .int (0) :: _) dX4_begin_218 rfl ?_
          refine go_pi dX4_begin_219 mf_4_126 rfl rfl (by first | rfl | assumption | (simp only [*]; done)) ?_
          refine go_aload_n dX4_begin_222 rfl ?_
          refine go_pu (st' := .int (-1) :: _) dX4_begin_223 rfl ?_
          refine go_pi dX4_begin_224 mf_4_18 rfl rfl (by first | rfl | assumption | (simp only [*]; done)) ?_
          refine go_aload_n dX4_begin_227 rfl ?_
          refine go_pu (st' := .int (0) :: _) dX4_begin_228 rfl ?_
          refine go_pi dX4_begin_229 mf_4_129 rfl rfl (by first | rfl | assumption | (simp only [*]; done)) ?_
          refine go_vret dX4_begin_232 rfl ?_ ?_
          · first | rfl | (simp [r_begin, x_risk, hsl, hho, mm_u_sr, sr_same, sr_sr, up_s, up_o, sr_other, up_up, *]; done) | ((try simp [mm_u_sr, sr_same, sr_sr, up_s, up_o, sr_other, up_up, -Int32.not_lt, -Int32.not_le] at *) <;> simp [r_begin, x_risk, hsl, hho, mm_u_sr, sr_same, sr_sr, up_s, up_o, sr_other, up_up, *, -Int32.not_lt, -Int32.not_le]; done) | (simp_all [r_begin, x_risk, hsl, hho, mm_u_sr, sr_same, sr_sr, up_s, up_o, sr_other, up_up]; done)
          · first | rfl | (simp [r_begin, x_risk, hsl, hho, mm_u_sr, sr_same, sr_sr, up_s, up_o, sr_other, up_up, *]; done) | ((try simp [mm_u_sr, sr_same, sr_sr, up_s, up_o, sr_other, up_up, -Int32.not_lt, -Int32.not_le] at *) <;> simp [r_begin, x_risk, hsl, hho, mm_u_sr, sr_same, sr_sr, up_s, up_o, sr_other, up_up, *, -Int32.not_lt, -Int32.not_le]; done) | (simp_all [r_begin, x_risk, hsl, hho, mm_u_sr, sr_same, sr_sr, up_s, up_o, sr_other, up_up]; done)
        · refine go_aload_n dX4_begin_134 rfl ?_
          refine go_pu dX4_begin_135 rfl ?_
          refine go_gi dX4_begin_136 mf_4_87 (by decide) (by first | rfl | assumption | (simp only [*]; done)) ?_
          refine go_pu (st' := .int (2) :: _) dX4_begin_139 rfl ?_
          refine go_pu (st' := .int _ :: _) dX4_begin_140 rfl ?_
          refine go_pi dX4_begin_141 mf_4_87 rfl rfl (by first | rfl | assumption | (simp only [*]; done)) ?_
          refine go_aload_n dX4_begin_144 rfl ?_
          refine go_aload_n dX4_begin_145 rfl ?_
          refine go_gr dX4_begin_146 mf_4_94 rfl (by first | rfl | assumption | (simp only [*]; done)) (by first | rfl | assumption | (simp only [*]; done)) ?_
          refine go_pu (st' := .int (0) :: _) dX4_begin_149 rfl ?_
          refine go_ial dX4_begin_150 hcs (by first | rfl | assumption | (simp only [*]; done)) (by decide) ?_
          refine go_pi dX4_begin_151 mf_4_98 rfl rfl (by first | rfl | assumption | (simp only [*]; done)) ?_
          refine go_aload_n dX4_begin_154 rfl ?_
          refine go_aload_n dX4_begin_155 rfl ?_
          refine go_gr dX4_begin_156 mf_4_94 rfl (by first | rfl | assumption | (simp only [*]; done)) (by first | rfl | assumption | (simp only [*]; done)) ?_
          refine go_pu (st' := .int (1) :: _) dX4_begin_159 rfl ?_
          refine go_ial dX4_begin_160 hcs (by first | rfl | assumption | (simp only [*]; done)) (by decide) ?_
          refine go_pi dX4_begin_161 mf_4_101 rfl rfl (by first | rfl | assumption | (simp only [*]; done)) ?_
          refine go_aload_n dX4_begin_164 rfl ?_
          refine go_pu (st' := .int (0) :: _) dX4_begin_165 rfl ?_
          refine go_aload_n dX4_begin_166 rfl ?_
          refine go_gr dX4_begin_167 mf_4_94 rfl (by first | rfl | assumption | (simp only [*]; done)) (by first | rfl | assumption | (simp only [*]; done)) ?_
          refine go_pu (st' := .int (2) :: _) dX4_begin_170 rfl ?_
          refine go_ial dX4_begin_171 hcs (by first | rfl | assumption | (simp only [*]; done)) (by decide) ?_
          refine go_aload_n dX4_begin_172 rfl ?_
          refine go_gr dX4_begin_173 mf_4_12 rfl (by first | rfl | assumption | (simp only [*]; done)) (by first | rfl | assumption | (simp only [*]; done)) ?_
          refine go_gi dX4_begin_176 mf_4_59 (by decide) (by first | rfl | assumption | (simp only [*]; done)) ?_
          refine go_pu (st' := .int _ :: _) dX4_begin_179 rfl ?_
          refine go_bi (kind := 0) (args := [.int _, .int _]) (rest := _) dX4_begin_180 (Or.inl ⟨rfl, rfl⟩) mk_4_104 (by decide) rfl rfl rfl rfl rfl rfl ?_
          refine go_pi dX4_begin_183 mf_4_108 rfl rfl (by first | rfl | assumption | (simp only [*]; done)) ?_
          refine go_aload_n dX4_begin_186 rfl ?_
          refine go_aload_n dX4_begin_187 rfl ?_
          refine go_gr dX4_begin_188 mf_4_94 rfl (by first | rfl | assumption | (simp only [*]; done)) (by first | rfl | assumption | (simp only [*]; done)) ?_
          refine go_pu (st' := .int (3) :: _) dX4_begin_191 rfl ?_
          refine go_ial dX4_begin_192 hcs (by first | rfl | assumption | (simp only [*]; done)) (by decide) ?_
          refine go_pi dX4_begin_193 mf_4_111 rfl rfl (by first | rfl | assumption | (simp only [*]; done)) ?_
          refine go_aload_n dX4_begin_196 rfl ?_
          refine go_aload_n dX4_begin_197 rfl ?_
          refine go_gr dX4_begin_198 mf_4_12 rfl (by first | rfl | assumption | (simp only [*]; done)) (by first | rfl | assumption | (simp only [*]; done)) ?_
          refine go_gi dX4_begin_201 mf_4_114 (by decide) (by first | rfl | assumption | (simp only [*]; done)) ?_
          refine go_pi dX4_begin_204 mf_4_117 rfl rfl (by first | rfl | assumption | (simp only [*]; done)) ?_
          refine go_aload_n dX4_begin_207 rfl ?_
          refine go_pu (st' := .int (0) :: _) dX4_begin_208 rfl ?_
          refine go_pi dX4_begin_209 mf_4_120 rfl rfl (by first | rfl | assumption | (simp only [*]; done)) ?_
          refine go_aload_n dX4_begin_212 rfl ?_
          refine go_pu (st' := .int (0) :: _) dX4_begin_213 rfl ?_
          refine go_pi dX4_begin_214 mf_4_123 rfl rfl (by first | rfl | assumption | (simp only [*]; done)) ?_
          refine go_aload_n dX4_begin_217 rfl ?_
          refine go_pu (st' := .int (0) :: _) dX4_begin_218 rfl ?_
          refine go_pi dX4_begin_219 mf_4_126 rfl rfl (by first | rfl | assumption | (simp only [*]; done)) ?_
          refine go_aload_n dX4_begin_222 rfl ?_
          refine go_pu (st' := .int (-1) :: _) dX4_begin_223 rfl ?_
          refine go_pi dX4_begin_224 mf_4_18 rfl rfl (by first | rfl | assumption | (simp only [*]; done)) ?_
          refine go_aload_n dX4_begin_227 rfl ?_
          refine go_pu (st' := .int (0) :: _) dX4_begin_228 rfl ?_
          refine go_pi dX4_begin_229 mf_4_129 rfl rfl (by first | rfl | assumption | (simp only [*]; done)) ?_
          refine go_vret dX4_begin_232 rfl ?_ ?_
          · first | rfl | (simp [r_begin, x_risk, hsl, hho, mm_u_sr, sr_same, sr_sr, up_s, up_o, sr_other, up_up, *]; done) | ((try simp [mm_u_sr, sr_same, sr_sr, up_s, up_o, sr_other, up_up, -Int32.not_lt, -Int32.not_le] at *) <;> simp [r_begin, x_risk, hsl, hho, mm_u_sr, sr_same, sr_sr, up_s, up_o, sr_other, up_up, *, -Int32.not_lt, -Int32.not_le]; done) | (simp_all [r_begin, x_risk, hsl, hho, mm_u_sr, sr_same, sr_sr, up_s, up_o, sr_other, up_up]; done)
          · first | rfl | (simp [r_begin, x_risk, hsl, hho, mm_u_sr, sr_same, sr_sr, up_s, up_o, sr_other, up_up, *]; done) | ((try simp [mm_u_sr, sr_same, sr_sr, up_s, up_o, sr_other, up_up, -Int32.not_lt, -Int32.not_le] at *) <;> simp [r_begin, x_risk, hsl, hho, mm_u_sr, sr_same, sr_sr, up_s, up_o, sr_other, up_up, *, -Int32.not_lt, -Int32.not_le]; done) | (simp_all [r_begin, x_risk, hsl, hho, mm_u_sr, sr_same, sr_sr, up_s, up_o, sr_other, up_up]; done)
      · exact absurd (bi_0.mpr hp) h2
    · exact absurd (bi_0.mpr hp) h1

def c_become (κ σ : mRow) : mRow := upd (upd (upd (upd (upd (upd κ 0 (σ 0)) 1 (σ 1)) 2 (σ 2)) 3 (σ 3)) 4 (σ 4)) 5 (σ 5)

set_option maxHeartbeats 1000000 in
theorem ok_X0_become (d : Nat) (I : mI) (L : mL) (w v : Nat) (hw : mm_sh[w]? = some (0, 0)) (hv : mm_sh[v]? = some (0, 0)) (hne : v ≠ w) : mm_Call (d + 1) 1 [.ref w, .ref v] (mm_sh, mm_R, I, L) none (mm_sh, mm_R, (sr I w (c_become (I w) (I v))), L) := by
  refine mm_Call.of_go (d := d + 0) me_1 ⟨Nat.le_of_ble_eq_true rfl, rfl⟩ ?_
  show mm_Go mm_cs0 _ _ _ _ _ _ [some (.ref _), some (.ref _)] [] _ _ _
  refine go_aload_n dX0_become_0 rfl ?_
  refine go_aload_n dX0_become_1 rfl ?_
  refine go_gi dX0_become_2 mf_0_7 (by decide) (by first | rfl | assumption | (simp only [*]; done)) ?_
  refine go_pi dX0_become_5 mf_0_7 rfl rfl (by first | rfl | assumption | (simp only [*]; done)) ?_
  refine go_aload_n dX0_become_8 rfl ?_
  refine go_aload_n dX0_become_9 rfl ?_
  refine go_gi dX0_become_10 mf_0_13 (by decide) (by first | rfl | assumption | (simp only [*]; done)) ?_
  refine go_pi dX0_become_13 mf_0_13 rfl rfl (by first | rfl | assumption | (simp only [*]; done)) ?_
  refine go_aload_n dX0_become_16 rfl ?_
  refine go_aload_n dX0_become_17 rfl ?_
  refine go_gi dX0_become_18 mf_0_16 (by decide) (by first | rfl | assumption | (simp only [*]; done)) ?_
  refine go_pi dX0_become_21 mf_0_16 rfl rfl (by first | rfl | assumption | (simp only [*]; done)) ?_
  refine go_aload_n dX0_become_24 rfl ?_
  refine go_aload_n dX0_become_25 rfl ?_
  refine go_gi dX0_become_26 mf_0_19 (by decide) (by first | rfl | assumption | (simp only [*]; done)) ?_
  refine go_pi dX0_become_29 mf_0_19 rfl rfl (by first | rfl | assumption | (simp only [*]; done)) ?_
  refine go_aload_n dX0_become_32 rfl ?_
  refine go_aload_n dX0_become_33 rfl ?_
  refine go_gi dX0_become_34 mf_0_22 (by decide) (by first | rfl | assumption | (simp only [*]; done)) ?_
  refine go_pi dX0_become_37 mf_0_22 rfl rfl (by first | rfl | assumption | (simp only [*]; done)) ?_
  refine go_aload_n dX0_become_40 rfl ?_
  refine go_aload_n dX0_become_41 rfl ?_
  refine go_gi dX0_become_42 mf_0_25 (by decide) (by first | rfl | assumption | (simp only [*]; done)) ?_
  refine go_pi dX0_become_45 mf_0_25 rfl rfl (by first | rfl | assumption | (simp only [*]; done)) ?_
  refine go_vret dX0_become_48 rfl ?_ ?_
  · first | rfl | (simp [c_become, mm_u_sr, sr_same, sr_sr, up_s, up_o, sr_other, up_up, *]; done) | ((try simp [mm_u_sr, sr_same, sr_sr, up_s, up_o, sr_other, up_up, -Int32.not_lt, -Int32.not_le] at *) <;> simp [c_become, mm_u_sr, sr_same, sr_sr, up_s, up_o, sr_other, up_up, *, -Int32.not_lt, -Int32.not_le]; done) | (simp_all [c_become, mm_u_sr, sr_same, sr_sr, up_s, up_o, sr_other, up_up]; done)
  · first | rfl | (simp [c_become, mm_u_sr, sr_same, sr_sr, up_s, up_o, sr_other, up_up, *]; done) | ((try simp [mm_u_sr, sr_same, sr_sr, up_s, up_o, sr_other, up_up, -Int32.not_lt, -Int32.not_le] at *) <;> simp [c_become, mm_u_sr, sr_same, sr_sr, up_s, up_o, sr_other, up_up, *, -Int32.not_lt, -Int32.not_le]; done) | (simp_all [c_become, mm_u_sr, sr_same, sr_sr, up_s, up_o, sr_other, up_up]; done)

def x_take (I : mI) (r f : Nat) (c : Int32) : mI := sr (sr I (r + 1) (c_become (I (r + 1)) (I (f + 4 + c.toNatClampNeg)))) r (upd (upd (I r) 1 0) 2 (I f 5))
set_option maxHeartbeats 1000000 in
theorem ok_X4_take (d : Nat) (I : mI) (L : mL) (r f : Nat) (c : Int32) (hra : isRa r) (hF : isF f) (hfr : f + 20 ≤ r) (hp : 0 ≤ c ∧ c < I f 1) (h8 : I f 1 ≤ 8) (hz : I f 5 = 0 ∨ I f 5 = 1) : mm_Call (d + 2) 22 [.ref r, .ref f, .int c] (mm_sh, mm_R, I, L) none (mm_sh, mm_R, x_take I r f c, L) := by
  obtain ⟨hr, hw, hc0⟩ := hra
  obtain ⟨hf, f1, f2, f3, f4, f5, f6, f7⟩ := hF
  have hn4 : r ≠ r + 1 := by omega
  have hn1 : f ≠ r := by omega
  have hn2 : f ≠ r + 1 := by omega
  have hi8 : mm_in c 8 = true := mm_in_8.mpr ⟨hp.1, Int32.lt_of_lt_of_le hp.2 h8⟩
  have hlt := mm_in_lt hi8
  have hn3 : f + 4 + c.toNatClampNeg ≠ r + 1 := by omega
  obtain ⟨hj1, hj2, hj3, hj4⟩ := f7 _ hlt
  refine mm_Call.of_go (d := d + 1) me_22 ⟨Nat.le_of_ble_eq_true rfl, rfl⟩ ?_
  show mm_Go mm_cs0 _ _ _ _ _ _ [some (.ref _), some (.ref _), some (.int _)] [] _ _ _
  refine go_aload_n dX4_take_0 rfl ?_
  refine go_iload_n dX4_take_1 rfl ?_
  refine go_call (kind := 1) (args := [.ref _, .int _]) (rest := _) dX4_take_2 (Or.inr (Or.inl ⟨rfl, rfl⟩)) mk_4_22 (by decide) me_3 rfl rfl rfl rfl rfl (mm_rc_of (by first | rfl | assumption | (simp only [*]; done))) (ok_X1_hasChild _ _ _ _ hf _) rfl ?_
  refine go_ifc (t := 21) dX4_take_5 (by decide) c1_eq (fun h1 => ?_) (fun h1 => ?_)
  · exact absurd (bi_0.mp h1) (Classical.not_not.mpr hp)
  · refine go_aload_n dX4_take_8 rfl ?_
    refine go_gr dX4_take_9 mf_4_12 rfl (by first | rfl | assumption | (simp only [*]; done)) (by first | rfl | assumption | (simp only [*]; done)) ?_
    refine go_aload_n dX4_take_12 rfl ?_
    refine go_gr dX4_take_13 mf_4_28 rfl (by first | rfl | assumption | (simp only [*]; done)) (by first | rfl | assumption | (simp only [*]; done)) ?_
    refine go_iload_n dX4_take_16 rfl ?_
    refine go_aal dX4_take_17 (by first | rfl | assumption | (simp only [*]; done)) (by decide) hi8 hj1 ?_
    refine go_call (kind := 1) (args := [.ref _, .ref _]) (rest := _) dX4_take_18 (Or.inr (Or.inl ⟨rfl, rfl⟩)) mk_4_32 (by decide) me_1 rfl rfl rfl rfl rfl (mm_rc_of (by first | rfl | assumption | (simp only [*]; done))) (ok_X0_become _ _ _ _ _ hc0 hj2 hn3) rfl ?_
    refine go_aload_n dX4_take_21 rfl ?_
    refine go_pu (st' := .int (0) :: _) dX4_take_22 rfl ?_
    refine go_pi dX4_take_23 mf_4_36 rfl rfl (by first | rfl | assumption | (simp only [*]; done)) ?_
    refine go_aload_n dX4_take_26 rfl ?_
    refine go_aload_n dX4_take_27 rfl ?_
    refine go_gi dX4_take_28 mf_4_39 (by decide) (by first | rfl | assumption | (simp only [*]; done)) ?_
    refine go_pz dX4_take_31 mf_4_43 rfl rfl (by simpa [mm_u_sr, sr_same, sr_sr, up_s, up_o, sr_other, up_up, hn1, hn2] using hz) (by first | rfl | assumption | (simp only [*]; done)) ?_
    refine go_vret dX4_take_34 rfl ?_ ?_
    · first | rfl | (simp [x_take, mm_u_sr, sr_same, sr_sr, up_s, up_o, sr_other, up_up, *]; done) | ((try simp [mm_u_sr, sr_same, sr_sr, up_s, up_o, sr_other, up_up, -Int32.not_lt, -Int32.not_le] at *) <;> simp [x_take, mm_u_sr, sr_same, sr_sr, up_s, up_o, sr_other, up_up, *, -Int32.not_lt, -Int32.not_le]; done) | (simp_all [x_take, mm_u_sr, sr_same, sr_sr, up_s, up_o, sr_other, up_up]; done)
    · first | rfl | (simp [x_take, mm_u_sr, sr_same, sr_sr, up_s, up_o, sr_other, up_up, *]; done) | ((try simp [mm_u_sr, sr_same, sr_sr, up_s, up_o, sr_other, up_up, -Int32.not_lt, -Int32.not_le] at *) <;> simp [x_take, mm_u_sr, sr_same, sr_sr, up_s, up_o, sr_other, up_up, *, -Int32.not_lt, -Int32.not_le]; done) | (simp_all [x_take, mm_u_sr, sr_same, sr_sr, up_s, up_o, sr_other, up_up]; done)

def r_b (I : mI) (r f : Nat) : mRow := r_begin (I r) (I (r + 1)) (I (f + 3)) (x_slack I f (I (r + 1)) (I r 1)) (x_holes I f (I (r + 1)))
def x_ttr (I : mI) (r f : Nat) : mRow := r_go 999 (r_b I r f)

set_option maxHeartbeats 1000000 in
theorem ok_X4_timeToRope (d : Nat) (I : mI) (L : mL) (r f : Nat) (hra : isRa r) (hF : isF f) (hfr : f + 3 ≠ r) (hk : isKd (I (r + 1) 0)) (hsc : I f 3 ≤ 8) : mm_Call (d + 4) 32 [.ref r, .ref f] (mm_sh, mm_R, I, L) (some (.int (r_time (x_ttr I r f)))) (mm_sh, mm_R, (sr I r (x_ttr I r f)), L) := by
  refine mm_Call.of_go (d := d + 3) me_32 ⟨Nat.le_of_ble_eq_true rfl, rfl⟩ ?_
  show mm_Go mm_cs0 _ _ _ _ _ _ [some (.ref _), some (.ref _)] [] _ _ _
  refine go_aload_n dX4_timeToRope_0 rfl ?_
  refine go_aload_n dX4_timeToRope_1 rfl ?_
  refine go_call (kind := 1) (args := [.ref _, .ref _]) (rest := _) dX4_timeToRope_2 (Or.inr (Or.inl ⟨rfl, rfl⟩)) mk_4_152 (by decide) me_23 rfl rfl rfl rfl rfl (mm_rc_of hra.1) (ok_X4_begin _ _ _ _ _ hra hF hfr hk hsc) rfl ?_
  refine go_aload_n dX4_timeToRope_5 rfl ?_
  refine go_pu (st' := .int (999) :: _) dX4_timeToRope_6 rfl ?_
  refine go_call (kind := 1) (args := [.ref _, .int _]) (rest := _) dX4_timeToRope_9 (Or.inr (Or.inl ⟨rfl, rfl⟩)) mk_4_156 (by decide) me_30 rfl rfl rfl rfl rfl (mm_rc_of hra.1) (ok_X4_goToWay _ _ _ _ hra.1 999 (by decide)) rfl ?_
  refine go_aload_n dX4_timeToRope_12 rfl ?_
  refine go_call (kind := 1) (args := [.ref _]) (rest := _) dX4_timeToRope_13 (Or.inr (Or.inl ⟨rfl, rfl⟩)) mk_4_160 (by decide) me_31 rfl rfl rfl rfl rfl (mm_rc_of hra.1) (ok_X4_timeNow _ _ _ _ hra.1) rfl ?_
  refine go_iret dX4_timeToRope_16 rfl ?_ ?_
  · first | rfl | (simp [x_ttr, r_b, mm_u_sr, sr_same, sr_sr, up_s, up_o, sr_other, up_up, *]; done) | ((try simp [mm_u_sr, sr_same, sr_sr, up_s, up_o, sr_other, up_up, -Int32.not_lt, -Int32.not_le] at *) <;> simp [x_ttr, r_b, mm_u_sr, sr_same, sr_sr, up_s, up_o, sr_other, up_up, *, -Int32.not_lt, -Int32.not_le]; done) | (simp_all [x_ttr, r_b, mm_u_sr, sr_same, sr_sr, up_s, up_o, sr_other, up_up]; done)
  · first | rfl | (simp [x_ttr, r_b, mm_u_sr, sr_same, sr_sr, up_s, up_o, sr_other, up_up, *]; done) | ((try simp [mm_u_sr, sr_same, sr_sr, up_s, up_o, sr_other, up_up, -Int32.not_lt, -Int32.not_le] at *) <;> simp [x_ttr, r_b, mm_u_sr, sr_same, sr_sr, up_s, up_o, sr_other, up_up, *, -Int32.not_lt, -Int32.not_le]; done) | (simp_all [x_ttr, r_b, mm_u_sr, sr_same, sr_sr, up_s, up_o, sr_other, up_up]; done)
