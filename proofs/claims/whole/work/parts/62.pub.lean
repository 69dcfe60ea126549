/-! PUBLIC METHODS: childOf, holds, element, status, trace -/
section P62
variable {I C J : pI} {L : pL} {N S : Nat}

theorem sw_8 (x : Int32) : x = 0 ∨ x = 1 ∨ x = 2 ∨ x = 3 ∨ x = 4 ∨ x = 5 ∨ x = 6 ∨ x = 7 ∨ x = 8 ∨ (x < 0 ∨ 8 < x) := by
  simp only [ti_eq, ti_lt, show (0 : Int32).toInt = 0 from by decide, show (1 : Int32).toInt = 1 from by decide, show (2 : Int32).toInt = 2 from by decide, show (3 : Int32).toInt = 3 from by decide, show (4 : Int32).toInt = 4 from by decide, show (5 : Int32).toInt = 5 from by decide, show (6 : Int32).toInt = 6 from by decide, show (7 : Int32).toInt = 7 from by decide, show (8 : Int32).toInt = 8 from by decide]
  omega
theorem sd_8 {x : Int32} (h : x < 0 ∨ 8 < x) : x.toInt < 0 ∨ 8 < x.toInt := by
  simp only [ti_lt, show (0 : Int32).toInt = 0 from by decide, show (8 : Int32).toInt = 8 from by decide] at h
  exact h
theorem sb_8 {x : Int32} (h0 : ¬ x < 0) (h1 : ¬ 8 < x) : x = 0 ∨ x = 1 ∨ x = 2 ∨ x = 3 ∨ x = 4 ∨ x = 5 ∨ x = 6 ∨ x = 7 ∨ x = 8 := by
  simp only [ti_eq, ti_lt, show (0 : Int32).toInt = 0 from by decide, show (1 : Int32).toInt = 1 from by decide, show (2 : Int32).toInt = 2 from by decide, show (3 : Int32).toInt = 3 from by decide, show (4 : Int32).toInt = 4 from by decide, show (5 : Int32).toInt = 5 from by decide, show (6 : Int32).toInt = 6 from by decide, show (7 : Int32).toInt = 7 from by decide, show (8 : Int32).toInt = 8 from by decide] at h0 h1 ⊢
  omega

theorem sw_9 (x : Int32) : x = 0 ∨ x = 1 ∨ x = 2 ∨ x = 3 ∨ x = 4 ∨ x = 5 ∨ x = 6 ∨ x = 7 ∨ x = 8 ∨ x = 9 ∨ (x < 0 ∨ 9 < x) := by
  simp only [ti_eq, ti_lt, show (0 : Int32).toInt = 0 from by decide, show (1 : Int32).toInt = 1 from by decide, show (2 : Int32).toInt = 2 from by decide, show (3 : Int32).toInt = 3 from by decide, show (4 : Int32).toInt = 4 from by decide, show (5 : Int32).toInt = 5 from by decide, show (6 : Int32).toInt = 6 from by decide, show (7 : Int32).toInt = 7 from by decide, show (8 : Int32).toInt = 8 from by decide, show (9 : Int32).toInt = 9 from by decide]
  omega
theorem sd_9 {x : Int32} (h : x < 0 ∨ 9 < x) : x.toInt < 0 ∨ 9 < x.toInt := by
  simp only [ti_lt, show (0 : Int32).toInt = 0 from by decide, show (9 : Int32).toInt = 9 from by decide] at h
  exact h
theorem sb_9 {x : Int32} (h0 : ¬ x < 0) (h1 : ¬ 9 < x) : x = 0 ∨ x = 1 ∨ x = 2 ∨ x = 3 ∨ x = 4 ∨ x = 5 ∨ x = 6 ∨ x = 7 ∨ x = 8 ∨ x = 9 := by
  simp only [ti_eq, ti_lt, show (0 : Int32).toInt = 0 from by decide, show (1 : Int32).toInt = 1 from by decide, show (2 : Int32).toInt = 2 from by decide, show (3 : Int32).toInt = 3 from by decide, show (4 : Int32).toInt = 4 from by decide, show (5 : Int32).toInt = 5 from by decide, show (6 : Int32).toInt = 6 from by decide, show (7 : Int32).toInt = 7 from by decide, show (8 : Int32).toInt = 8 from by decide, show (9 : Int32).toInt = 9 from by decide] at h0 h1 ⊢
  omega

theorem sw_6 (x : Int32) : x = 0 ∨ x = 1 ∨ x = 2 ∨ x = 3 ∨ x = 4 ∨ x = 5 ∨ x = 6 ∨ (x < 0 ∨ 6 < x) := by
  simp only [ti_eq, ti_lt, show (0 : Int32).toInt = 0 from by decide, show (1 : Int32).toInt = 1 from by decide, show (2 : Int32).toInt = 2 from by decide, show (3 : Int32).toInt = 3 from by decide, show (4 : Int32).toInt = 4 from by decide, show (5 : Int32).toInt = 5 from by decide, show (6 : Int32).toInt = 6 from by decide]
  omega
theorem sd_6 {x : Int32} (h : x < 0 ∨ 6 < x) : x.toInt < 0 ∨ 6 < x.toInt := by
  simp only [ti_lt, show (0 : Int32).toInt = 0 from by decide, show (6 : Int32).toInt = 6 from by decide] at h
  exact h
theorem sb_6 {x : Int32} (h0 : ¬ x < 0) (h1 : ¬ 6 < x) : x = 0 ∨ x = 1 ∨ x = 2 ∨ x = 3 ∨ x = 4 ∨ x = 5 ∨ x = 6 := by
  simp only [ti_eq, ti_lt, show (0 : Int32).toInt = 0 from by decide, show (1 : Int32).toInt = 1 from by decide, show (2 : Int32).toInt = 2 from by decide, show (3 : Int32).toInt = 3 from by decide, show (4 : Int32).toInt = 4 from by decide, show (5 : Int32).toInt = 5 from by decide, show (6 : Int32).toInt = 6 from by decide] at h0 h1 ⊢
  omega

theorem sw_4 (x : Int32) : x = 0 ∨ x = 1 ∨ x = 2 ∨ x = 3 ∨ x = 4 ∨ (x < 0 ∨ 4 < x) := by
  simp only [ti_eq, ti_lt, show (0 : Int32).toInt = 0 from by decide, show (1 : Int32).toInt = 1 from by decide, show (2 : Int32).toInt = 2 from by decide, show (3 : Int32).toInt = 3 from by decide, show (4 : Int32).toInt = 4 from by decide]
  omega
theorem sd_4 {x : Int32} (h : x < 0 ∨ 4 < x) : x.toInt < 0 ∨ 4 < x.toInt := by
  simp only [ti_lt, show (0 : Int32).toInt = 0 from by decide, show (4 : Int32).toInt = 4 from by decide] at h
  exact h
theorem sb_4 {x : Int32} (h0 : ¬ x < 0) (h1 : ¬ 4 < x) : x = 0 ∨ x = 1 ∨ x = 2 ∨ x = 3 ∨ x = 4 := by
  simp only [ti_eq, ti_lt, show (0 : Int32).toInt = 0 from by decide, show (1 : Int32).toInt = 1 from by decide, show (2 : Int32).toInt = 2 from by decide, show (3 : Int32).toInt = 3 from by decide, show (4 : Int32).toInt = 4 from by decide] at h0 h1 ⊢
  omega

theorem sw_3 (x : Int32) : x = 0 ∨ x = 1 ∨ x = 2 ∨ x = 3 ∨ (x < 0 ∨ 3 < x) := by
  simp only [ti_eq, ti_lt, show (0 : Int32).toInt = 0 from by decide, show (1 : Int32).toInt = 1 from by decide, show (2 : Int32).toInt = 2 from by decide, show (3 : Int32).toInt = 3 from by decide]
  omega
theorem sd_3 {x : Int32} (h : x < 0 ∨ 3 < x) : x.toInt < 0 ∨ 3 < x.toInt := by
  simp only [ti_lt, show (0 : Int32).toInt = 0 from by decide, show (3 : Int32).toInt = 3 from by decide] at h
  exact h
theorem sb_3 {x : Int32} (h0 : ¬ x < 0) (h1 : ¬ 3 < x) : x = 0 ∨ x = 1 ∨ x = 2 ∨ x = 3 := by
  simp only [ti_eq, ti_lt, show (0 : Int32).toInt = 0 from by decide, show (1 : Int32).toInt = 1 from by decide, show (2 : Int32).toInt = 2 from by decide, show (3 : Int32).toInt = 3 from by decide] at h0 h1 ⊢
  omega

theorem hop_st {K : pI} {κ a l k ah rl mo : Int32} (h : hop I K κ a l k ah rl mo) : m_stride (K 108) = k_stride κ a l (q_sl I k l mo) ∧ m_puff (K 108) = k_puff κ ∧ m_risk (K 108) = q_rk κ a l (q_sl I k l mo) (q_ho I k) := by
  obtain ⟨h1, h2, h3, h4, h5, h6, h7⟩ := h
  have e : m_stride (K 108) = k_stride κ a l (q_sl I k l mo) := by unfold m_stride; rw [h1, h2, h3, h6]
  refine ⟨e, ?_, ?_⟩
  · unfold m_puff; rw [h1]
  · unfold m_risk q_rk; rw [e, h1, h6, h7]
def w_cO (N : Nat) (c w : Int32) : Int32 := if ¬ (0 ≤ c ∧ c < nI N) then -5 else if w < 0 ∨ 8 < w then -5 else 0
theorem w_cO_w (N : Nat) (k w : Int32) : w_cO N k w = 0 ∨ isW (w_cO N k w) := by unfold w_cO; (repeat' split) <;> first | exact Or.inl rfl | (right; unfold isW; decide)
def q_cO (I : pI) (c : Nat) (w : Int32) : Int32 := if w = 0 then I 110 c else if w = 1 then I 111 c else if w = 2 then I 112 c else if w = 3 then I 113 c else if w = 4 then I 114 c else if w = 5 then q_st I c else if w = 6 then k_puff (I 110 c) else if w = 7 then q_ri I c else I 115 c
theorem i_z2 (hb : bR I N S) : I 1 5 = 0 ∨ I 1 5 = 1 := by rw [hb.c15 (sc.rf I)]; exact hb.rl
theorem i_n8 (hb : bR I N S) : I 1 1 ≤ 8 := by rw [hb.c11 (sc.rf I)]; exact nI_le (b := 8) hb.n.1 (by omega)

set_option maxHeartbeats 400000 in
theorem cl_childOf (d : Nat) (hb : bR I N S) {c w : Int32} : cP (d + 8) 69 [.ref 0, .int c, .int w] (mm_sh, mm_R, I, L) (pX (some (.int (vq (w_cO N c w) (q_cO I c.toNatClampNeg w)))) L (sc (rI I (w_cO N c w)))) := by
  have hs := sc.rf I
  have e11 : I 1 1 = nI N := hb.c11 hs
  have e13 : I 1 3 = nI S := hb.c13 hs
  refine cP.of_gP (d := d + 7) me_69 ⟨Nat.le_of_ble_eq_true rfl, rfl⟩ ?_
  show gP mm_cs0 _ _ _ _ _ _ [some (.ref _), some (.int _), some (.int _)] [] _ _
  refine gp_aload_n dX8_childOf_0 rfl ?_
  refine gp_gr dX8_childOf_1 mf_8_10 rfl (by first | rfl | assumption | (simp only [*]; done)) (by first | rfl | assumption | (simp only [*]; done)) ?_
  refine gp_iload_n dX8_childOf_4 rfl ?_
  refine gp_call (kind := 1) (args := [.ref _, .int _]) (rest := _) dX8_childOf_5 (Or.inr (Or.inl ⟨rfl, rfl⟩)) mk_8_126 (by decide) me_3 rfl rfl rfl rfl rfl (mm_rc_of (by first | rfl | assumption | (simp only [*]; done))) (ok_X1_hasChild _ _ _ _ rfl _) rfl ?_
  refine gp_ifc (t := 21) dX8_childOf_8 (by decide) c1_eq (fun h1 => ?_) (fun h1 => ?_)
  · (try simp only [bi_0, bi_1, Classical.not_not, e11, e13] at h1)
    refine gp_aload_n dX8_childOf_21 rfl ?_
    refine gp_pu (st' := .int (-5) :: _) dX8_childOf_22 rfl ?_
    refine gp_call (kind := 1) (args := [.ref _, .int _]) (rest := _) dX8_childOf_24 (Or.inr (Or.inl ⟨rfl, rfl⟩)) mk_8_79 (by decide) me_100 rfl rfl rfl rfl rfl (mm_rc_of (by first | rfl | assumption | (simp only [*]; done))) (ok_X8_refuse _ _ _ _) rfl ?_
    refine gp_iret dX8_childOf_27 rfl ?_
    (refine cNo ?zqa (by unfold isW; decide); (case zqa => ((simp [w_cO, *]; done))))
  · (try simp only [bi_0, bi_1, Classical.not_not, e11, e13] at h1)
    refine gp_iload_n dX8_childOf_11 rfl ?_
    refine gp_ifc (t := 21) dX8_childOf_12 (by decide) c1_lt (fun h2 => ?_) (fun h2 => ?_)
    · have h2' := Int32.not_le.mpr h2
      (try simp only [bi_0, bi_1, Classical.not_not, e11, e13] at h2)
      refine gp_aload_n dX8_childOf_21 rfl ?_
      refine gp_pu (st' := .int (-5) :: _) dX8_childOf_22 rfl ?_
      refine gp_call (kind := 1) (args := [.ref _, .int _]) (rest := _) dX8_childOf_24 (Or.inr (Or.inl ⟨rfl, rfl⟩)) mk_8_79 (by decide) me_100 rfl rfl rfl rfl rfl (mm_rc_of (by first | rfl | assumption | (simp only [*]; done))) (ok_X8_refuse _ _ _ _) rfl ?_
      refine gp_iret dX8_childOf_27 rfl ?_
      (refine cNo ?zqa (by unfold isW; decide); (case zqa => ((simp [w_cO, *]; done))))
    · have h2' := Int32.not_lt.mp h2
      (try simp only [bi_0, bi_1, Classical.not_not, e11, e13] at h2)
      refine gp_iload_n dX8_childOf_15 rfl ?_
      refine gp_pu (st' := .int (8) :: _) dX8_childOf_16 rfl ?_
      refine gp_icc (t := 28) dX8_childOf_18 (by decide) c2_le (fun h3 => ?_) (fun h3 => ?_)
      · have h3' := Int32.not_lt.mpr h3
        (try simp only [bi_0, bi_1, Classical.not_not, e11, e13] at h3)
        have hn8 := Int32.not_lt.mpr (by assumption : w ≤ 8)
        refine gp_aload_n dX8_childOf_28 rfl ?_
        refine gp_gr dX8_childOf_29 mf_8_31 rfl (by first | rfl | assumption | (simp only [*]; done)) (by first | rfl | assumption | (simp only [*]; done)) ?_
        refine gp_aload_n dX8_childOf_32 rfl ?_
        refine gp_gr dX8_childOf_33 mf_8_10 rfl (by first | rfl | assumption | (simp only [*]; done)) (by first | rfl | assumption | (simp only [*]; done)) ?_
        refine gp_iload_n dX8_childOf_36 rfl ?_
        refine gp_call (kind := 1) (args := [.ref _, .ref _, .int _]) (rest := _) dX8_childOf_37 (Or.inr (Or.inl ⟨rfl, rfl⟩)) mk_8_167 (by decide) me_22 rfl rfl rfl rfl rfl (mm_rc_of (by first | rfl | assumption | (simp only [*]; done))) (ok_X4_take _ _ _ 62 1 _ isRa_62 isF_1 (by decide) (by rw [e11]; assumption) (i_n8 hb) (i_z2 hb)) rfl ?_
        refine gp_aload_n dX8_childOf_40 rfl ?_
        refine gp_gr dX8_childOf_41 mf_8_31 rfl (by first | rfl | assumption | (simp only [*]; done)) (by first | rfl | assumption | (simp only [*]; done)) ?_
        refine gp_aload_n dX8_childOf_44 rfl ?_
        refine gp_gr dX8_childOf_45 mf_8_10 rfl (by first | rfl | assumption | (simp only [*]; done)) (by first | rfl | assumption | (simp only [*]; done)) ?_
        refine gp_callX (kind := 1) (args := [.ref _, .ref _]) (rest := _) dX8_childOf_48 (Or.inr (Or.inl ⟨rfl, rfl⟩)) mk_8_171 (by decide) me_23 rfl rfl rfl rfl rfl (mm_rc_of (by first | rfl | assumption | (simp only [*]; done))) (ct_begin _ _ hb hs (by assumption)) ?_
        intro K1 hK1
        obtain ⟨g1, g2, g3, g4, g5, g6, g7, g8, g9, g10, g11, g12⟩ := hK1
        refine gp_iload_n dX8_childOf_51 rfl ?_
        rcases sb_8 h2 hn8 with hsw | hsw | hsw | hsw | hsw | hsw | hsw | hsw | hsw
        · refine gp_ts (t := 100) dX8_childOf_52 (by rw [hsw]; rfl) (by decide) ?_
          refine gp_aload_n dX8_childOf_100 rfl ?_
          refine gp_gr dX8_childOf_101 mf_8_31 rfl (by first | rfl | assumption | (simp only [*]; done)) (by first | rfl | assumption | (simp only [*]; done)) ?_
          refine gp_gr dX8_childOf_104 mf_8_175 rfl (by first | rfl | assumption | (simp only [*]; done)) (by first | rfl | assumption | (simp only [*]; done)) ?_
          refine gp_giv dX8_childOf_107 mf_8_142 (by decide) (by first | rfl | assumption | (simp only [*]; done)) (by first | exact g1 _ _ rfl | exact g2 _ (by decide) | exact g6 | exact g7 | exact g8 | exact rfl) ?_
          refine gp_iret dX8_childOf_110 rfl ?_
          first | (refine cOk ?zqa ?zqb g1; (case zqa => ((simp [w_cO, *]; done))); (case zqb => ((simp [q_cO, hsw]; done))))
        · refine gp_ts (t := 111) dX8_childOf_52 (by rw [hsw]; rfl) (by decide) ?_
          refine gp_aload_n dX8_childOf_111 rfl ?_
          refine gp_gr dX8_childOf_112 mf_8_31 rfl (by first | rfl | assumption | (simp only [*]; done)) (by first | rfl | assumption | (simp only [*]; done)) ?_
          refine gp_gr dX8_childOf_115 mf_8_175 rfl (by first | rfl | assumption | (simp only [*]; done)) (by first | rfl | assumption | (simp only [*]; done)) ?_
          refine gp_giv dX8_childOf_118 mf_8_179 (by decide) (by first | rfl | assumption | (simp only [*]; done)) (by first | exact g1 _ _ rfl | exact g2 _ (by decide) | exact g6 | exact g7 | exact g8 | exact rfl) ?_
          refine gp_iret dX8_childOf_121 rfl ?_
          first | (refine cOk ?zqa ?zqb g1; (case zqa => ((simp [w_cO, *]; done))); (case zqb => ((simp [q_cO, hsw]; done))))
        · refine gp_ts (t := 122) dX8_childOf_52 (by rw [hsw]; rfl) (by decide) ?_
          refine gp_aload_n dX8_childOf_122 rfl ?_
          refine gp_gr dX8_childOf_123 mf_8_31 rfl (by first | rfl | assumption | (simp only [*]; done)) (by first | rfl | assumption | (simp only [*]; done)) ?_
          refine gp_gr dX8_childOf_126 mf_8_175 rfl (by first | rfl | assumption | (simp only [*]; done)) (by first | rfl | assumption | (simp only [*]; done)) ?_
          refine gp_giv dX8_childOf_129 mf_8_182 (by decide) (by first | rfl | assumption | (simp only [*]; done)) (by first | exact g1 _ _ rfl | exact g2 _ (by decide) | exact g6 | exact g7 | exact g8 | exact rfl) ?_
          refine gp_iret dX8_childOf_132 rfl ?_
          first | (refine cOk ?zqa ?zqb g1; (case zqa => ((simp [w_cO, *]; done))); (case zqb => ((simp [q_cO, hsw]; done))))
        · refine gp_ts (t := 133) dX8_childOf_52 (by rw [hsw]; rfl) (by decide) ?_
          refine gp_aload_n dX8_childOf_133 rfl ?_
          refine gp_gr dX8_childOf_134 mf_8_31 rfl (by first | rfl | assumption | (simp only [*]; done)) (by first | rfl | assumption | (simp only [*]; done)) ?_
          refine gp_gr dX8_childOf_137 mf_8_175 rfl (by first | rfl | assumption | (simp only [*]; done)) (by first | rfl | assumption | (simp only [*]; done)) ?_
          refine gp_giv dX8_childOf_140 mf_8_185 (by decide) (by first | rfl | assumption | (simp only [*]; done)) (by first | exact g1 _ _ rfl | exact g2 _ (by decide) | exact g6 | exact g7 | exact g8 | exact rfl) ?_
          refine gp_iret dX8_childOf_143 rfl ?_
          first | (refine cOk ?zqa ?zqb g1; (case zqa => ((simp [w_cO, *]; done))); (case zqb => ((simp [q_cO, hsw]; done))))
        · refine gp_ts (t := 144) dX8_childOf_52 (by rw [hsw]; rfl) (by decide) ?_
          refine gp_aload_n dX8_childOf_144 rfl ?_
          refine gp_gr dX8_childOf_145 mf_8_31 rfl (by first | rfl | assumption | (simp only [*]; done)) (by first | rfl | assumption | (simp only [*]; done)) ?_
          refine gp_gr dX8_childOf_148 mf_8_175 rfl (by first | rfl | assumption | (simp only [*]; done)) (by first | rfl | assumption | (simp only [*]; done)) ?_
          refine gp_giv dX8_childOf_151 mf_8_188 (by decide) (by first | rfl | assumption | (simp only [*]; done)) (by first | exact g1 _ _ rfl | exact g2 _ (by decide) | exact g6 | exact g7 | exact g8 | exact rfl) ?_
          refine gp_iret dX8_childOf_154 rfl ?_
          first | (refine cOk ?zqa ?zqb g1; (case zqa => ((simp [w_cO, *]; done))); (case zqb => ((simp [q_cO, hsw]; done))))
        · refine gp_ts (t := 155) dX8_childOf_52 (by rw [hsw]; rfl) (by decide) ?_
          refine gp_aload_n dX8_childOf_155 rfl ?_
          refine gp_gr dX8_childOf_156 mf_8_31 rfl (by first | rfl | assumption | (simp only [*]; done)) (by first | rfl | assumption | (simp only [*]; done)) ?_
          refine gp_giv dX8_childOf_159 mf_8_191 (by decide) (by first | rfl | assumption | (simp only [*]; done)) (by first | exact g1 _ _ rfl | exact g2 _ (by decide) | exact g6 | exact g7 | exact g8 | exact rfl) ?_
          refine gp_iret dX8_childOf_162 rfl ?_
          first | (refine cOk ?zqa ?zqb g1; (case zqa => ((simp [w_cO, *]; done))); (case zqb => ((simp [q_cO, hsw]; done))))
        · refine gp_ts (t := 163) dX8_childOf_52 (by rw [hsw]; rfl) (by decide) ?_
          refine gp_aload_n dX8_childOf_163 rfl ?_
          refine gp_gr dX8_childOf_164 mf_8_31 rfl (by first | rfl | assumption | (simp only [*]; done)) (by first | rfl | assumption | (simp only [*]; done)) ?_
          refine gp_giv dX8_childOf_167 mf_8_194 (by decide) (by first | rfl | assumption | (simp only [*]; done)) (by first | exact g1 _ _ rfl | exact g2 _ (by decide) | exact g6 | exact g7 | exact g8 | exact rfl) ?_
          refine gp_iret dX8_childOf_170 rfl ?_
          first | (refine cOk ?zqa ?zqb g1; (case zqa => ((simp [w_cO, *]; done))); (case zqb => ((simp [q_cO, hsw]; done))))
        · refine gp_ts (t := 171) dX8_childOf_52 (by rw [hsw]; rfl) (by decide) ?_
          refine gp_aload_n dX8_childOf_171 rfl ?_
          refine gp_gr dX8_childOf_172 mf_8_31 rfl (by first | rfl | assumption | (simp only [*]; done)) (by first | rfl | assumption | (simp only [*]; done)) ?_
          refine gp_giv dX8_childOf_175 mf_8_197 (by decide) (by first | rfl | assumption | (simp only [*]; done)) (by first | exact g1 _ _ rfl | exact g2 _ (by decide) | exact g6 | exact g7 | exact g8 | exact rfl) ?_
          refine gp_iret dX8_childOf_178 rfl ?_
          first | (refine cOk ?zqa ?zqb g1; (case zqa => ((simp [w_cO, *]; done))); (case zqb => ((simp [q_cO, hsw]; done))))
        · refine gp_ts (t := 179) dX8_childOf_52 (by rw [hsw]; rfl) (by decide) ?_
          refine gp_aload_n dX8_childOf_179 rfl ?_
          refine gp_gr dX8_childOf_180 mf_8_31 rfl (by first | rfl | assumption | (simp only [*]; done)) (by first | rfl | assumption | (simp only [*]; done)) ?_
          refine gp_gr dX8_childOf_183 mf_8_175 rfl (by first | rfl | assumption | (simp only [*]; done)) (by first | rfl | assumption | (simp only [*]; done)) ?_
          refine gp_giv dX8_childOf_186 mf_8_200 (by decide) (by first | rfl | assumption | (simp only [*]; done)) (by first | exact g1 _ _ rfl | exact g2 _ (by decide) | exact g6 | exact g7 | exact g8 | exact rfl) ?_
          refine gp_iret dX8_childOf_189 rfl ?_
          first | (refine cOk ?zqa ?zqb g1; (case zqa => ((simp [w_cO, *]; done))); (case zqb => ((simp [q_cO, hsw]; done))))
      · have h3' := Int32.not_le.mp h3
        (try simp only [bi_0, bi_1, Classical.not_not, e11, e13] at h3)
        refine gp_aload_n dX8_childOf_21 rfl ?_
        refine gp_pu (st' := .int (-5) :: _) dX8_childOf_22 rfl ?_
        refine gp_call (kind := 1) (args := [.ref _, .int _]) (rest := _) dX8_childOf_24 (Or.inr (Or.inl ⟨rfl, rfl⟩)) mk_8_79 (by decide) me_100 rfl rfl rfl rfl rfl (mm_rc_of (by first | rfl | assumption | (simp only [*]; done))) (ok_X8_refuse _ _ _ _) rfl ?_
        refine gp_iret dX8_childOf_27 rfl ?_
        (refine cNo ?zqa (by unfold isW; decide); (case zqa => ((simp [w_cO, *]; done))))

set_option maxHeartbeats 400000 in
theorem ml_childOf (d : Nat) (v : vN I N S) (hs : mR I C J) {c w : Int32} : cP (d + 9) 146 [.ref 108, .int c, .int w] (mm_sh, mm_R, J, L) (pX (some (.int (vq (w_cO N c w) (q_cO I c.toNatClampNeg w)))) L (mR (rM I (w_cO N c w)) C)) := by
  have m0 : J 108 0 = nI N := (hs.r (by decide)).trans v.2.2.1
  have m1 : J 108 1 = nI S := (hs.r (by decide)).trans v.2.2.2.1
  refine cP.of_gP (d := d + 8) me_146 ⟨Nat.le_of_ble_eq_true rfl, rfl⟩ ?_
  show gP mm_cs0 _ _ _ _ _ _ [some (.ref _), some (.int _), some (.int _)] [] _ _
  refine gp_aload_n dX9_childOf_0 rfl ?_
  refine gp_iload_n dX9_childOf_1 rfl ?_
  refine gp_call (kind := 1) (args := [.ref _, .int _]) (rest := _) dX9_childOf_2 (Or.inr (Or.inl ⟨rfl, rfl⟩)) mk_9_131 (by decide) me_130 rfl rfl rfl rfl rfl (mm_rc_of (by first | rfl | assumption | (simp only [*]; done))) (ok_X9_isChild _ _ _ _) rfl ?_
  refine gp_ifc (t := 15) dX9_childOf_5 (by decide) c1_ne (fun h1 => ?_) (fun h1 => ?_)
  · (try simp only [bi_0, bi_1, Classical.not_not, m0, m1] at h1)
    have k1 := v.in8 (c := c) (by assumption)
    refine gp_aload_n dX9_childOf_15 rfl ?_
    refine gp_iload_n dX9_childOf_16 rfl ?_
    refine gp_callX (kind := 1) (args := [.ref _, .int _]) (rest := _) dX9_childOf_17 (Or.inr (Or.inl ⟨rfl, rfl⟩)) mk_9_134 (by decide) me_166 rfl rfl rfl rfl rfl (mm_rc_of (by first | rfl | assumption | (simp only [*]; done))) (mt_puts _ _ v hs (by assumption)) ?_
    intro K1 hK1
    obtain ⟨g1, g2, g3⟩ := hK1
    obtain ⟨p1, p2, p3⟩ := hop_st g2
    have kd : isKd (K1 108 35) := by rw [g2.1]; exact isKd_wi (v.k (v.cl (c := c) (by assumption)).2.1).1
    refine gp_iload_n dX9_childOf_20 rfl ?_
    rcases sw_8 w with hsw | hsw | hsw | hsw | hsw | hsw | hsw | hsw | hsw | hsw
    · refine gp_ts (t := 72) dX9_childOf_21 (by rw [hsw]; rfl) (by decide) ?_
      refine gp_aload_n dX9_childOf_72 rfl ?_
      refine gp_gr dX9_childOf_73 mf_9_32 rfl (by first | rfl | assumption | (simp only [*]; done)) (by first | rfl | assumption | (simp only [*]; done)) ?_
      refine gp_iload_n dX9_childOf_76 rfl ?_
      refine gp_ialv dX9_childOf_77 rfl (by first | rfl | assumption | (simp only [*]; done)) (by first | rfl | assumption | (simp only [*]; done)) (by first | exact g1.1 _ _ rfl | exact rfl) ?_
      refine gp_iret dX9_childOf_78 rfl ?_
      first | (refine mOk ?zqa ?zqb g1; (case zqa => ((simp [w_cO, *]; done))); (case zqb => ((simp [q_cO, q_st, q_ri, hsw, *]; done))))
    · refine gp_ts (t := 79) dX9_childOf_21 (by rw [hsw]; rfl) (by decide) ?_
      refine gp_aload_n dX9_childOf_79 rfl ?_
      refine gp_gr dX9_childOf_80 mf_9_35 rfl (by first | rfl | assumption | (simp only [*]; done)) (by first | rfl | assumption | (simp only [*]; done)) ?_
      refine gp_iload_n dX9_childOf_83 rfl ?_
      refine gp_ialv dX9_childOf_84 rfl (by first | rfl | assumption | (simp only [*]; done)) (by first | rfl | assumption | (simp only [*]; done)) (by first | exact g1.1 _ _ rfl | exact rfl) ?_
      refine gp_iret dX9_childOf_85 rfl ?_
      first | (refine mOk ?zqa ?zqb g1; (case zqa => ((simp [w_cO, *]; done))); (case zqb => ((simp [q_cO, q_st, q_ri, hsw, *]; done))))
    · refine gp_ts (t := 86) dX9_childOf_21 (by rw [hsw]; rfl) (by decide) ?_
      refine gp_aload_n dX9_childOf_86 rfl ?_
      refine gp_gr dX9_childOf_87 mf_9_38 rfl (by first | rfl | assumption | (simp only [*]; done)) (by first | rfl | assumption | (simp only [*]; done)) ?_
      refine gp_iload_n dX9_childOf_90 rfl ?_
      refine gp_ialv dX9_childOf_91 rfl (by first | rfl | assumption | (simp only [*]; done)) (by first | rfl | assumption | (simp only [*]; done)) (by first | exact g1.1 _ _ rfl | exact rfl) ?_
      refine gp_iret dX9_childOf_92 rfl ?_
      first | (refine mOk ?zqa ?zqb g1; (case zqa => ((simp [w_cO, *]; done))); (case zqb => ((simp [q_cO, q_st, q_ri, hsw, *]; done))))
    · refine gp_ts (t := 93) dX9_childOf_21 (by rw [hsw]; rfl) (by decide) ?_
      refine gp_aload_n dX9_childOf_93 rfl ?_
      refine gp_gr dX9_childOf_94 mf_9_41 rfl (by first | rfl | assumption | (simp only [*]; done)) (by first | rfl | assumption | (simp only [*]; done)) ?_
      refine gp_iload_n dX9_childOf_97 rfl ?_
      refine gp_ialv dX9_childOf_98 rfl (by first | rfl | assumption | (simp only [*]; done)) (by first | rfl | assumption | (simp only [*]; done)) (by first | exact g1.1 _ _ rfl | exact rfl) ?_
      refine gp_iret dX9_childOf_99 rfl ?_
      first | (refine mOk ?zqa ?zqb g1; (case zqa => ((simp [w_cO, *]; done))); (case zqb => ((simp [q_cO, q_st, q_ri, hsw, *]; done))))
    · refine gp_ts (t := 100) dX9_childOf_21 (by rw [hsw]; rfl) (by decide) ?_
      refine gp_aload_n dX9_childOf_100 rfl ?_
      refine gp_gr dX9_childOf_101 mf_9_44 rfl (by first | rfl | assumption | (simp only [*]; done)) (by first | rfl | assumption | (simp only [*]; done)) ?_
      refine gp_iload_n dX9_childOf_104 rfl ?_
      refine gp_ialv dX9_childOf_105 rfl (by first | rfl | assumption | (simp only [*]; done)) (by first | rfl | assumption | (simp only [*]; done)) (by first | exact g1.1 _ _ rfl | exact rfl) ?_
      refine gp_iret dX9_childOf_106 rfl ?_
      first | (refine mOk ?zqa ?zqb g1; (case zqa => ((simp [w_cO, *]; done))); (case zqb => ((simp [q_cO, q_st, q_ri, hsw, *]; done))))
    · refine gp_ts (t := 107) dX9_childOf_21 (by rw [hsw]; rfl) (by decide) ?_
      refine gp_aload_n dX9_childOf_107 rfl ?_
      refine gp_call (kind := 1) (args := [.ref _]) (rest := _) dX9_childOf_108 (Or.inr (Or.inl ⟨rfl, rfl⟩)) mk_9_142 (by decide) me_169 rfl rfl rfl rfl rfl (mm_rc_of (by first | rfl | assumption | (simp only [*]; done))) (ok_X9_stride _ _ _ kd) rfl ?_
      refine gp_iret dX9_childOf_111 rfl ?_
      first | (refine mOk ?zqa ?zqb g1; (case zqa => ((simp [w_cO, *]; done))); (case zqb => ((simp [q_cO, q_st, q_ri, hsw, *]; done))))
    · refine gp_ts (t := 112) dX9_childOf_21 (by rw [hsw]; rfl) (by decide) ?_
      refine gp_aload_n dX9_childOf_112 rfl ?_
      refine gp_call (kind := 1) (args := [.ref _]) (rest := _) dX9_childOf_113 (Or.inr (Or.inl ⟨rfl, rfl⟩)) mk_9_138 (by decide) me_170 rfl rfl rfl rfl rfl (mm_rc_of (by first | rfl | assumption | (simp only [*]; done))) (ok_X9_puff _ _ _ kd) rfl ?_
      refine gp_iret dX9_childOf_116 rfl ?_
      first | (refine mOk ?zqa ?zqb g1; (case zqa => ((simp [w_cO, *]; done))); (case zqb => ((simp [q_cO, q_st, q_ri, hsw, *]; done))))
    · refine gp_ts (t := 117) dX9_childOf_21 (by rw [hsw]; rfl) (by decide) ?_
      refine gp_aload_n dX9_childOf_117 rfl ?_
      refine gp_call (kind := 1) (args := [.ref _]) (rest := _) dX9_childOf_118 (Or.inr (Or.inl ⟨rfl, rfl⟩)) mk_9_145 (by decide) me_171 rfl rfl rfl rfl rfl (mm_rc_of (by first | rfl | assumption | (simp only [*]; done))) (ok_X9_risk _ _ _ kd) rfl ?_
      refine gp_iret dX9_childOf_121 rfl ?_
      first | (refine mOk ?zqa ?zqb g1; (case zqa => ((simp [w_cO, *]; done))); (case zqb => ((simp [q_cO, q_st, q_ri, hsw, *]; done))))
    · refine gp_ts (t := 122) dX9_childOf_21 (by rw [hsw]; rfl) (by decide) ?_
      refine gp_aload_n dX9_childOf_122 rfl ?_
      refine gp_gr dX9_childOf_123 mf_9_47 rfl (by first | rfl | assumption | (simp only [*]; done)) (by first | rfl | assumption | (simp only [*]; done)) ?_
      refine gp_iload_n dX9_childOf_126 rfl ?_
      refine gp_ialv dX9_childOf_127 rfl (by first | rfl | assumption | (simp only [*]; done)) (by first | rfl | assumption | (simp only [*]; done)) (by first | exact g1.1 _ _ rfl | exact rfl) ?_
      refine gp_iret dX9_childOf_128 rfl ?_
      first | (refine mOk ?zqa ?zqb g1; (case zqa => ((simp [w_cO, *]; done))); (case zqb => ((simp [q_cO, q_st, q_ri, hsw, *]; done))))
    · refine gp_ts (t := 129) dX9_childOf_21 (if_pos (sd_8 hsw)) (by decide) ?_
      refine gp_aload_n dX9_childOf_129 rfl ?_
      refine gp_pu (st' := .int (-5) :: _) dX9_childOf_130 rfl ?_
      refine gp_call (kind := 1) (args := [.ref _, .int _]) (rest := _) dX9_childOf_132 (Or.inr (Or.inl ⟨rfl, rfl⟩)) mk_9_127 (by decide) me_127 rfl rfl rfl rfl rfl (mm_rc_of (by first | rfl | assumption | (simp only [*]; done))) (ok_X9_no _ _ _ _ (by decide)) rfl ?_
      refine gp_iret dX9_childOf_135 rfl ?_
      first | (refine mNo ?zqa (by unfold isW; decide) hs; (case zqa => ((simp [w_cO, *]; done)))) | (refine mNo ?zqa (by unfold isW; decide) g1; (case zqa => ((simp [w_cO, *]; done))))
  · (try simp only [bi_0, bi_1, Classical.not_not, m0, m1] at h1)
    refine gp_aload_n dX9_childOf_8 rfl ?_
    refine gp_pu (st' := .int (-5) :: _) dX9_childOf_9 rfl ?_
    refine gp_call (kind := 1) (args := [.ref _, .int _]) (rest := _) dX9_childOf_11 (Or.inr (Or.inl ⟨rfl, rfl⟩)) mk_9_127 (by decide) me_127 rfl rfl rfl rfl rfl (mm_rc_of (by first | rfl | assumption | (simp only [*]; done))) (ok_X9_no _ _ _ _ (by decide)) rfl ?_
    refine gp_iret dX9_childOf_14 rfl ?_
    first | (refine mNo ?zqa (by unfold isW; decide) hs; (case zqa => ((simp [w_cO, *]; done)))) | (refine mNo ?zqa (by unfold isW; decide) g1; (case zqa => ((simp [w_cO, *]; done))))

theorem eq_childOf (c w : Int32) : eqc 69 146 [.int c, .int w] := by
  refine eqc_q fun I L hR => ?_
  obtain ⟨N, S, hb, hS, hL, hK, hT, hW, hE⟩ := hR
  refine ⟨_, w_cO N c w, w_cO_w N c w, cl_childOf 32 hb, fun C J hs => ml_childOf 31 hb.1 hs⟩
end P62
