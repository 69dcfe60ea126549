/-! PUBLIC METHODS: status -/
section P64
variable {I C J : pI} {L : pL} {N S : Nat}

def q_ss (I : pI) (N S : Nat) (w : Int32) : Int32 := if 10 < w ∧ w ≤ 17 then I 109 (w - 10).toNatClampNeg else if w = 0 then nI N else if w = 1 then nI S else if w = 2 then I 108 2 else if w = 3 then I 108 3 else if w = 4 then I 108 4 else if w = 5 then I 108 5 else if w = 6 then I 108 6 else if w = 7 then I 108 7 else if w = 8 then I 108 8 else if w = 9 then I 108 57 else -1
theorem w_10 {w : Int32} (h0 : 10 < w) (h1 : w ≤ 17) : mm_in (w - 10) 8 = true ∧ (w - 10).toNatClampNeg < 8 := by
  rw [ti_lt, show (10 : Int32).toInt = 10 from by decide] at h0
  rw [ti_le, show (17 : Int32).toInt = 17 from by decide] at h1
  have e : (w - 10).toInt = w.toInt - 10 := by rw [ti_sub (by rw [show (10 : Int32).toInt = 10 from by decide]; omega) (by rw [show (10 : Int32).toInt = 10 from by decide]; omega), show (10 : Int32).toInt = 10 from by decide]
  have h := mm_in_8 (x := w - 10) |>.mpr ⟨by rw [ti_le, e, ti_0]; omega, by rw [ti_lt, e, show (8 : Int32).toInt = 8 from by decide]; omega⟩
  exact ⟨h, mm_in_lt h⟩
theorem w_11 (w : Int32) : w < 11 ↔ ¬ 10 < w := by
  rw [ti_lt, ti_lt, show (11 : Int32).toInt = 11 from by decide, show (10 : Int32).toInt = 10 from by decide]; omega
theorem q_ss_d {I : pI} {N S : Nat} {w : Int32} (h : ¬ (10 < w ∧ w ≤ 17)) (h2 : w < 0 ∨ 9 < w) : q_ss I N S w = -1 := by
  have ne : ∀ n : Int32, 0 ≤ n.toInt → n.toInt ≤ 9 → ¬ w = n := fun n a b z => by
    subst z
    simp only [ti_lt, ti_0, show (9 : Int32).toInt = 9 from by decide] at h2
    omega
  unfold q_ss
  rw [if_neg h, if_neg (ne 0 (by decide) (by decide)), if_neg (ne 1 (by decide) (by decide)), if_neg (ne 2 (by decide) (by decide)), if_neg (ne 3 (by decide) (by decide)), if_neg (ne 4 (by decide) (by decide)), if_neg (ne 5 (by decide) (by decide)), if_neg (ne 6 (by decide) (by decide)), if_neg (ne 7 (by decide) (by decide)), if_neg (ne 8 (by decide) (by decide)), if_neg (ne 9 (by decide) (by decide))]
theorem bit_rl {x : Int32} (h : x = 0 ∨ x = 1) : bi (¬ x = 0) = x := by rcases h with rfl | rfl <;> decide
theorem sw_25 {w : Int32} (h0 : ¬ w < 2) (h1 : ¬ 5 < w) : w = 2 ∨ w = 3 ∨ w = 4 ∨ w = 5 := by
  simp only [ti_eq, ti_lt, show (2 : Int32).toInt = 2 from by decide, show (3 : Int32).toInt = 3 from by decide, show (4 : Int32).toInt = 4 from by decide, show (5 : Int32).toInt = 5 from by decide] at h0 h1 ⊢
  omega
def q_told (I : pI) (w : Int32) : Int32 := if w = 0 then I 108 2 else if w = 1 then I 108 3 else if w = 2 then I 108 4 else I 108 5

set_option maxHeartbeats 400000 in
theorem ml_told (d : Nat) (v : vN I N S) (hs : mR I C J) {w : Int32} : cP (d + 1) 151 [.ref 108, .int w] (mm_sh, mm_R, J, L) (pX (some (.int (q_told I w))) L (mR I C)) := by
  have m0 : J 108 0 = nI N := (hs.r (by decide)).trans v.2.2.1
  have m1 : J 108 1 = nI S := (hs.r (by decide)).trans v.2.2.2.1
  refine cP.of_gP (d := d + 0) me_151 ⟨Nat.le_of_ble_eq_true rfl, rfl⟩ ?_
  show gP mm_cs0 _ _ _ _ _ _ [some (.ref _), some (.int _)] [] _ _
  refine gp_iload_n dX9_told_0 rfl ?_
  refine gp_ifc (t := 11) dX9_told_1 (by decide) c1_ne (fun h1 => ?_) (fun h1 => ?_)
  · (try simp only [bi_0, bi_1, Classical.not_not, m0, m1] at h1)
    refine gp_iload_n dX9_told_11 rfl ?_
    refine gp_pu (st' := .int (1) :: _) dX9_told_12 rfl ?_
    refine gp_icc (t := 23) dX9_told_13 (by decide) c2_ne (fun h2 => ?_) (fun h2 => ?_)
    · (try simp only [bi_0, bi_1, Classical.not_not, m0, m1] at h2)
      refine gp_iload_n dX9_told_23 rfl ?_
      refine gp_pu (st' := .int (2) :: _) dX9_told_24 rfl ?_
      refine gp_icc (t := 35) dX9_told_25 (by decide) c2_ne (fun h3 => ?_) (fun h3 => ?_)
      · (try simp only [bi_0, bi_1, Classical.not_not, m0, m1] at h3)
        refine gp_aload_n dX9_told_35 rfl ?_
        refine gp_giv dX9_told_36 mf_9_19 (by decide) (by first | rfl | assumption | (simp only [*]; done)) (by first | exact hs.1 _ _ rfl | exact rfl) ?_
        refine gp_iret dX9_told_39 rfl ?_
        first | (refine pX.mk (congrArg some (congrArg Value.int ?zqa)) hs; (case zqa => ((simp [q_told, *]; done))))
      · (try simp only [bi_0, bi_1, Classical.not_not, m0, m1] at h3)
        refine gp_aload_n dX9_told_28 rfl ?_
        refine gp_giv dX9_told_29 mf_9_16 (by decide) (by first | rfl | assumption | (simp only [*]; done)) (by first | exact hs.1 _ _ rfl | exact rfl) ?_
        refine gp_goto (t := 39) dX9_told_32 (by decide) ?_
        refine gp_iret dX9_told_39 rfl ?_
        first | (refine pX.mk (congrArg some (congrArg Value.int ?zqa)) hs; (case zqa => ((simp [q_told, *]; done))))
    · (try simp only [bi_0, bi_1, Classical.not_not, m0, m1] at h2)
      refine gp_aload_n dX9_told_16 rfl ?_
      refine gp_giv dX9_told_17 mf_9_13 (by decide) (by first | rfl | assumption | (simp only [*]; done)) (by first | exact hs.1 _ _ rfl | exact rfl) ?_
      refine gp_goto (t := 39) dX9_told_20 (by decide) ?_
      refine gp_iret dX9_told_39 rfl ?_
      first | (refine pX.mk (congrArg some (congrArg Value.int ?zqa)) hs; (case zqa => ((simp [q_told, *]; done))))
  · (try simp only [bi_0, bi_1, Classical.not_not, m0, m1] at h1)
    refine gp_aload_n dX9_told_4 rfl ?_
    refine gp_giv dX9_told_5 mf_9_7 (by decide) (by first | rfl | assumption | (simp only [*]; done)) (by first | exact hs.1 _ _ rfl | exact rfl) ?_
    refine gp_goto (t := 39) dX9_told_8 (by decide) ?_
    refine gp_iret dX9_told_39 rfl ?_
    first | (refine pX.mk (congrArg some (congrArg Value.int ?zqa)) hs; (case zqa => ((simp [q_told, *]; done))))

set_option maxHeartbeats 400000 in
theorem cl_status (d : Nat) (hb : bR I N S) (hT : rT I) (hE : rE I) {w : Int32} : cP (d + 2) 99 [.ref 0, .int w] (mm_sh, mm_R, I, L) (pX (some (.int (q_ss I N S w))) L (sc I)) := by
  have hs := sc.rf I
  have e11 : I 1 1 = nI N := hb.c11 hs
  have e13 : I 1 3 = nI S := hb.c13 hs
  refine cP.of_gP (d := d + 1) me_99 ⟨Nat.le_of_ble_eq_true rfl, rfl⟩ ?_
  show gP mm_cs0 _ _ _ _ _ _ [some (.ref _), some (.int _)] [] _ _
  refine gp_iload_n dX8_status_0 rfl ?_
  refine gp_pu (st' := .int (10) :: _) dX8_status_1 rfl ?_
  refine gp_icc (t := 22) dX8_status_3 (by decide) c2_le (fun h1 => ?_) (fun h1 => ?_)
  · have h1' := Int32.not_lt.mpr h1
    (try simp only [bi_0, bi_1, Classical.not_not, e11, e13] at h1)
    have zqa3 : ¬ (10 < w ∧ w ≤ 17) := by first | exact fun z => absurd z.1 (by assumption) | exact fun z => absurd z.1 (Int32.not_lt.mpr (by assumption)) | exact fun z => absurd (by assumption) (Int32.not_lt.mpr z.2)
    refine gp_iload_n dX8_status_22 rfl ?_
    rcases sw_9 w with hsw | hsw | hsw | hsw | hsw | hsw | hsw | hsw | hsw | hsw | hsw
    · refine gp_ts (t := 76) dX8_status_23 (by rw [hsw]; rfl) (by decide) ?_
      refine gp_aload_n dX8_status_76 rfl ?_
      refine gp_gr dX8_status_77 mf_8_10 rfl (by first | rfl | assumption | (simp only [*]; done)) (by first | rfl | assumption | (simp only [*]; done)) ?_
      refine gp_giv dX8_status_80 mf_8_154 (by decide) (by first | rfl | assumption | (simp only [*]; done)) (by first | exact e11 | exact e13 | exact hb.w hs (w := 0) (by decide) | exact hb.w hs (w := 1) (by decide) | exact hb.w hs (w := 2) (by decide) | exact hb.w hs (w := 3) (by decide) | exact hb.c15 hs | exact hb.2.2.2.2.1 | exact hb.2.2.2.2.2.1 | exact hT.1 | exact hE.2 _ zqa2 | exact rfl) ?_
      refine gp_iret dX8_status_83 rfl ?_
      first | (refine pX.mk (congrArg some (congrArg Value.int ?zqa)) hs; (case zqa => ((simp [q_ss, *]; done)))) | (refine pX.mk (congrArg some (congrArg Value.int ?zqa)) hs; (case zqa => (exact (q_ss_d zqa3 (by assumption)).symm))) | (refine pX.mk (congrArg some (congrArg Value.int ?zqa)) hs; (case zqa => (rw [hsw, bit_rl hb.rl]; rfl))) | (refine pX.mk (congrArg some (congrArg Value.int ?zqa)) hs; (case zqa => (rw [hsw]; rfl)))
    · refine gp_ts (t := 84) dX8_status_23 (by rw [hsw]; rfl) (by decide) ?_
      refine gp_aload_n dX8_status_84 rfl ?_
      refine gp_gr dX8_status_85 mf_8_10 rfl (by first | rfl | assumption | (simp only [*]; done)) (by first | rfl | assumption | (simp only [*]; done)) ?_
      refine gp_giv dX8_status_88 mf_8_161 (by decide) (by first | rfl | assumption | (simp only [*]; done)) (by first | exact e11 | exact e13 | exact hb.w hs (w := 0) (by decide) | exact hb.w hs (w := 1) (by decide) | exact hb.w hs (w := 2) (by decide) | exact hb.w hs (w := 3) (by decide) | exact hb.c15 hs | exact hb.2.2.2.2.1 | exact hb.2.2.2.2.2.1 | exact hT.1 | exact hE.2 _ zqa2 | exact rfl) ?_
      refine gp_iret dX8_status_91 rfl ?_
      first | (refine pX.mk (congrArg some (congrArg Value.int ?zqa)) hs; (case zqa => ((simp [q_ss, *]; done)))) | (refine pX.mk (congrArg some (congrArg Value.int ?zqa)) hs; (case zqa => (exact (q_ss_d zqa3 (by assumption)).symm))) | (refine pX.mk (congrArg some (congrArg Value.int ?zqa)) hs; (case zqa => (rw [hsw, bit_rl hb.rl]; rfl))) | (refine pX.mk (congrArg some (congrArg Value.int ?zqa)) hs; (case zqa => (rw [hsw]; rfl)))
    · refine gp_ts (t := 92) dX8_status_23 (by rw [hsw]; rfl) (by decide) ?_
      refine gp_aload_n dX8_status_92 rfl ?_
      refine gp_gr dX8_status_93 mf_8_10 rfl (by first | rfl | assumption | (simp only [*]; done)) (by first | rfl | assumption | (simp only [*]; done)) ?_
      refine gp_gr dX8_status_96 mf_8_227 rfl (by first | rfl | assumption | (simp only [*]; done)) (by first | rfl | assumption | (simp only [*]; done)) ?_
      refine gp_pu (st' := .int (0) :: _) dX8_status_99 rfl ?_
      refine gp_ialv dX8_status_100 rfl (by first | rfl | assumption | (simp only [*]; done)) (by first | rfl | assumption | (simp only [*]; done)) (by first | exact e11 | exact e13 | exact hb.w hs (w := 0) (by decide) | exact hb.w hs (w := 1) (by decide) | exact hb.w hs (w := 2) (by decide) | exact hb.w hs (w := 3) (by decide) | exact hb.c15 hs | exact hb.2.2.2.2.1 | exact hb.2.2.2.2.2.1 | exact hT.1 | exact hE.2 _ zqa2 | exact rfl) ?_
      refine gp_iret dX8_status_101 rfl ?_
      first | (refine pX.mk (congrArg some (congrArg Value.int ?zqa)) hs; (case zqa => ((simp [q_ss, *]; done)))) | (refine pX.mk (congrArg some (congrArg Value.int ?zqa)) hs; (case zqa => (exact (q_ss_d zqa3 (by assumption)).symm))) | (refine pX.mk (congrArg some (congrArg Value.int ?zqa)) hs; (case zqa => (rw [hsw, bit_rl hb.rl]; rfl))) | (refine pX.mk (congrArg some (congrArg Value.int ?zqa)) hs; (case zqa => (rw [hsw]; rfl)))
    · refine gp_ts (t := 102) dX8_status_23 (by rw [hsw]; rfl) (by decide) ?_
      refine gp_aload_n dX8_status_102 rfl ?_
      refine gp_gr dX8_status_103 mf_8_10 rfl (by first | rfl | assumption | (simp only [*]; done)) (by first | rfl | assumption | (simp only [*]; done)) ?_
      refine gp_gr dX8_status_106 mf_8_227 rfl (by first | rfl | assumption | (simp only [*]; done)) (by first | rfl | assumption | (simp only [*]; done)) ?_
      refine gp_pu (st' := .int (1) :: _) dX8_status_109 rfl ?_
      refine gp_ialv dX8_status_110 rfl (by first | rfl | assumption | (simp only [*]; done)) (by first | rfl | assumption | (simp only [*]; done)) (by first | exact e11 | exact e13 | exact hb.w hs (w := 0) (by decide) | exact hb.w hs (w := 1) (by decide) | exact hb.w hs (w := 2) (by decide) | exact hb.w hs (w := 3) (by decide) | exact hb.c15 hs | exact hb.2.2.2.2.1 | exact hb.2.2.2.2.2.1 | exact hT.1 | exact hE.2 _ zqa2 | exact rfl) ?_
      refine gp_iret dX8_status_111 rfl ?_
      first | (refine pX.mk (congrArg some (congrArg Value.int ?zqa)) hs; (case zqa => ((simp [q_ss, *]; done)))) | (refine pX.mk (congrArg some (congrArg Value.int ?zqa)) hs; (case zqa => (exact (q_ss_d zqa3 (by assumption)).symm))) | (refine pX.mk (congrArg some (congrArg Value.int ?zqa)) hs; (case zqa => (rw [hsw, bit_rl hb.rl]; rfl))) | (refine pX.mk (congrArg some (congrArg Value.int ?zqa)) hs; (case zqa => (rw [hsw]; rfl)))
    · refine gp_ts (t := 112) dX8_status_23 (by rw [hsw]; rfl) (by decide) ?_
      refine gp_aload_n dX8_status_112 rfl ?_
      refine gp_gr dX8_status_113 mf_8_10 rfl (by first | rfl | assumption | (simp only [*]; done)) (by first | rfl | assumption | (simp only [*]; done)) ?_
      refine gp_gr dX8_status_116 mf_8_227 rfl (by first | rfl | assumption | (simp only [*]; done)) (by first | rfl | assumption | (simp only [*]; done)) ?_
      refine gp_pu (st' := .int (2) :: _) dX8_status_119 rfl ?_
      refine gp_ialv dX8_status_120 rfl (by first | rfl | assumption | (simp only [*]; done)) (by first | rfl | assumption | (simp only [*]; done)) (by first | exact e11 | exact e13 | exact hb.w hs (w := 0) (by decide) | exact hb.w hs (w := 1) (by decide) | exact hb.w hs (w := 2) (by decide) | exact hb.w hs (w := 3) (by decide) | exact hb.c15 hs | exact hb.2.2.2.2.1 | exact hb.2.2.2.2.2.1 | exact hT.1 | exact hE.2 _ zqa2 | exact rfl) ?_
      refine gp_iret dX8_status_121 rfl ?_
      first | (refine pX.mk (congrArg some (congrArg Value.int ?zqa)) hs; (case zqa => ((simp [q_ss, *]; done)))) | (refine pX.mk (congrArg some (congrArg Value.int ?zqa)) hs; (case zqa => (exact (q_ss_d zqa3 (by assumption)).symm))) | (refine pX.mk (congrArg some (congrArg Value.int ?zqa)) hs; (case zqa => (rw [hsw, bit_rl hb.rl]; rfl))) | (refine pX.mk (congrArg some (congrArg Value.int ?zqa)) hs; (case zqa => (rw [hsw]; rfl)))
    · refine gp_ts (t := 122) dX8_status_23 (by rw [hsw]; rfl) (by decide) ?_
      refine gp_aload_n dX8_status_122 rfl ?_
      refine gp_gr dX8_status_123 mf_8_10 rfl (by first | rfl | assumption | (simp only [*]; done)) (by first | rfl | assumption | (simp only [*]; done)) ?_
      refine gp_gr dX8_status_126 mf_8_227 rfl (by first | rfl | assumption | (simp only [*]; done)) (by first | rfl | assumption | (simp only [*]; done)) ?_
      refine gp_pu (st' := .int (3) :: _) dX8_status_129 rfl ?_
      refine gp_ialv dX8_status_130 rfl (by first | rfl | assumption | (simp only [*]; done)) (by first | rfl | assumption | (simp only [*]; done)) (by first | exact e11 | exact e13 | exact hb.w hs (w := 0) (by decide) | exact hb.w hs (w := 1) (by decide) | exact hb.w hs (w := 2) (by decide) | exact hb.w hs (w := 3) (by decide) | exact hb.c15 hs | exact hb.2.2.2.2.1 | exact hb.2.2.2.2.2.1 | exact hT.1 | exact hE.2 _ zqa2 | exact rfl) ?_
      refine gp_iret dX8_status_131 rfl ?_
      first | (refine pX.mk (congrArg some (congrArg Value.int ?zqa)) hs; (case zqa => ((simp [q_ss, *]; done)))) | (refine pX.mk (congrArg some (congrArg Value.int ?zqa)) hs; (case zqa => (exact (q_ss_d zqa3 (by assumption)).symm))) | (refine pX.mk (congrArg some (congrArg Value.int ?zqa)) hs; (case zqa => (rw [hsw, bit_rl hb.rl]; rfl))) | (refine pX.mk (congrArg some (congrArg Value.int ?zqa)) hs; (case zqa => (rw [hsw]; rfl)))
    · refine gp_ts (t := 132) dX8_status_23 (by rw [hsw]; rfl) (by decide) ?_
      refine gp_aload_n dX8_status_132 rfl ?_
      refine gp_gr dX8_status_133 mf_8_10 rfl (by first | rfl | assumption | (simp only [*]; done)) (by first | rfl | assumption | (simp only [*]; done)) ?_
      refine gp_giv dX8_status_136 mf_8_233 (by decide) (by first | rfl | assumption | (simp only [*]; done)) (by first | exact e11 | exact e13 | exact hb.w hs (w := 0) (by decide) | exact hb.w hs (w := 1) (by decide) | exact hb.w hs (w := 2) (by decide) | exact hb.w hs (w := 3) (by decide) | exact hb.c15 hs | exact hb.2.2.2.2.1 | exact hb.2.2.2.2.2.1 | exact hT.1 | exact hE.2 _ zqa2 | exact rfl) ?_
      refine gp_call (kind := 0) (args := [.int _]) (rest := _) dX8_status_139 (Or.inl ⟨rfl, rfl⟩) mk_8_237 (by decide) me_105 rfl rfl rfl rfl rfl rfl (ok_X8_bit _ _ _ _) rfl ?_
      refine gp_iret dX8_status_142 rfl ?_
      first | (refine pX.mk (congrArg some (congrArg Value.int ?zqa)) hs; (case zqa => ((simp [q_ss, *]; done)))) | (refine pX.mk (congrArg some (congrArg Value.int ?zqa)) hs; (case zqa => (exact (q_ss_d zqa3 (by assumption)).symm))) | (refine pX.mk (congrArg some (congrArg Value.int ?zqa)) hs; (case zqa => (rw [hsw, bit_rl hb.rl]; rfl))) | (refine pX.mk (congrArg some (congrArg Value.int ?zqa)) hs; (case zqa => (rw [hsw]; rfl)))
    · refine gp_ts (t := 143) dX8_status_23 (by rw [hsw]; rfl) (by decide) ?_
      refine gp_aload_n dX8_status_143 rfl ?_
      refine gp_gr dX8_status_144 mf_8_10 rfl (by first | rfl | assumption | (simp only [*]; done)) (by first | rfl | assumption | (simp only [*]; done)) ?_
      refine gp_giv dX8_status_147 mf_8_356 (by decide) (by first | rfl | assumption | (simp only [*]; done)) (by first | exact e11 | exact e13 | exact hb.w hs (w := 0) (by decide) | exact hb.w hs (w := 1) (by decide) | exact hb.w hs (w := 2) (by decide) | exact hb.w hs (w := 3) (by decide) | exact hb.c15 hs | exact hb.2.2.2.2.1 | exact hb.2.2.2.2.2.1 | exact hT.1 | exact hE.2 _ zqa2 | exact rfl) ?_
      refine gp_iret dX8_status_150 rfl ?_
      first | (refine pX.mk (congrArg some (congrArg Value.int ?zqa)) hs; (case zqa => ((simp [q_ss, *]; done)))) | (refine pX.mk (congrArg some (congrArg Value.int ?zqa)) hs; (case zqa => (exact (q_ss_d zqa3 (by assumption)).symm))) | (refine pX.mk (congrArg some (congrArg Value.int ?zqa)) hs; (case zqa => (rw [hsw, bit_rl hb.rl]; rfl))) | (refine pX.mk (congrArg some (congrArg Value.int ?zqa)) hs; (case zqa => (rw [hsw]; rfl)))
    · refine gp_ts (t := 151) dX8_status_23 (by rw [hsw]; rfl) (by decide) ?_
      refine gp_aload_n dX8_status_151 rfl ?_
      refine gp_gr dX8_status_152 mf_8_10 rfl (by first | rfl | assumption | (simp only [*]; done)) (by first | rfl | assumption | (simp only [*]; done)) ?_
      refine gp_giv dX8_status_155 mf_8_340 (by decide) (by first | rfl | assumption | (simp only [*]; done)) (by first | exact e11 | exact e13 | exact hb.w hs (w := 0) (by decide) | exact hb.w hs (w := 1) (by decide) | exact hb.w hs (w := 2) (by decide) | exact hb.w hs (w := 3) (by decide) | exact hb.c15 hs | exact hb.2.2.2.2.1 | exact hb.2.2.2.2.2.1 | exact hT.1 | exact hE.2 _ zqa2 | exact rfl) ?_
      refine gp_iret dX8_status_158 rfl ?_
      first | (refine pX.mk (congrArg some (congrArg Value.int ?zqa)) hs; (case zqa => ((simp [q_ss, *]; done)))) | (refine pX.mk (congrArg some (congrArg Value.int ?zqa)) hs; (case zqa => (exact (q_ss_d zqa3 (by assumption)).symm))) | (refine pX.mk (congrArg some (congrArg Value.int ?zqa)) hs; (case zqa => (rw [hsw, bit_rl hb.rl]; rfl))) | (refine pX.mk (congrArg some (congrArg Value.int ?zqa)) hs; (case zqa => (rw [hsw]; rfl)))
    · refine gp_ts (t := 159) dX8_status_23 (by rw [hsw]; rfl) (by decide) ?_
      refine gp_aload_n dX8_status_159 rfl ?_
      refine gp_gr dX8_status_160 mf_8_56 rfl (by first | rfl | assumption | (simp only [*]; done)) (by first | rfl | assumption | (simp only [*]; done)) ?_
      refine gp_giv dX8_status_163 mf_8_359 (by decide) (by first | rfl | assumption | (simp only [*]; done)) (by first | exact e11 | exact e13 | exact hb.w hs (w := 0) (by decide) | exact hb.w hs (w := 1) (by decide) | exact hb.w hs (w := 2) (by decide) | exact hb.w hs (w := 3) (by decide) | exact hb.c15 hs | exact hb.2.2.2.2.1 | exact hb.2.2.2.2.2.1 | exact hT.1 | exact hE.2 _ zqa2 | exact rfl) ?_
      refine gp_iret dX8_status_166 rfl ?_
      first | (refine pX.mk (congrArg some (congrArg Value.int ?zqa)) hs; (case zqa => ((simp [q_ss, *]; done)))) | (refine pX.mk (congrArg some (congrArg Value.int ?zqa)) hs; (case zqa => (exact (q_ss_d zqa3 (by assumption)).symm))) | (refine pX.mk (congrArg some (congrArg Value.int ?zqa)) hs; (case zqa => (rw [hsw, bit_rl hb.rl]; rfl))) | (refine pX.mk (congrArg some (congrArg Value.int ?zqa)) hs; (case zqa => (rw [hsw]; rfl)))
    · refine gp_ts (t := 167) dX8_status_23 (if_pos (sd_9 hsw)) (by decide) ?_
      refine gp_pu (st' := .int (-1) :: _) dX8_status_167 rfl ?_
      refine gp_iret dX8_status_168 rfl ?_
      first | (refine pX.mk (congrArg some (congrArg Value.int ?zqa)) hs; (case zqa => ((simp [q_ss, *]; done)))) | (refine pX.mk (congrArg some (congrArg Value.int ?zqa)) hs; (case zqa => (exact (q_ss_d zqa3 (by assumption)).symm))) | (refine pX.mk (congrArg some (congrArg Value.int ?zqa)) hs; (case zqa => (rw [hsw, bit_rl hb.rl]; rfl))) | (refine pX.mk (congrArg some (congrArg Value.int ?zqa)) hs; (case zqa => (rw [hsw]; rfl)))
  · have h1' := Int32.not_le.mp h1
    (try simp only [bi_0, bi_1, Classical.not_not, e11, e13] at h1)
    refine gp_iload_n dX8_status_6 rfl ?_
    refine gp_pu (st' := .int (17) :: _) dX8_status_7 rfl ?_
    refine gp_icc (t := 22) dX8_status_9 (by decide) c2_gt (fun h2 => ?_) (fun h2 => ?_)
    · have h2' := Int32.not_le.mpr h2
      (try simp only [bi_0, bi_1, Classical.not_not, e11, e13] at h2)
      have zqa3 : ¬ (10 < w ∧ w ≤ 17) := by first | exact fun z => absurd z.1 (by assumption) | exact fun z => absurd z.1 (Int32.not_lt.mpr (by assumption)) | exact fun z => absurd (by assumption) (Int32.not_lt.mpr z.2)
      refine gp_iload_n dX8_status_22 rfl ?_
      rcases sw_9 w with hsw | hsw | hsw | hsw | hsw | hsw | hsw | hsw | hsw | hsw | hsw
      · refine gp_ts (t := 76) dX8_status_23 (by rw [hsw]; rfl) (by decide) ?_
        refine gp_aload_n dX8_status_76 rfl ?_
        refine gp_gr dX8_status_77 mf_8_10 rfl (by first | rfl | assumption | (simp only [*]; done)) (by first | rfl | assumption | (simp only [*]; done)) ?_
        refine gp_giv dX8_status_80 mf_8_154 (by decide) (by first | rfl | assumption | (simp only [*]; done)) (by first | exact e11 | exact e13 | exact hb.w hs (w := 0) (by decide) | exact hb.w hs (w := 1) (by decide) | exact hb.w hs (w := 2) (by decide) | exact hb.w hs (w := 3) (by decide) | exact hb.c15 hs | exact hb.2.2.2.2.1 | exact hb.2.2.2.2.2.1 | exact hT.1 | exact hE.2 _ zqa2 | exact rfl) ?_
        refine gp_iret dX8_status_83 rfl ?_
        first | (refine pX.mk (congrArg some (congrArg Value.int ?zqa)) hs; (case zqa => ((simp [q_ss, *]; done)))) | (refine pX.mk (congrArg some (congrArg Value.int ?zqa)) hs; (case zqa => (exact (q_ss_d zqa3 (by assumption)).symm))) | (refine pX.mk (congrArg some (congrArg Value.int ?zqa)) hs; (case zqa => (rw [hsw, bit_rl hb.rl]; rfl))) | (refine pX.mk (congrArg some (congrArg Value.int ?zqa)) hs; (case zqa => (rw [hsw]; rfl)))
      · refine gp_ts (t := 84) dX8_status_23 (by rw [hsw]; rfl) (by decide) ?_
        refine gp_aload_n dX8_status_84 rfl ?_
        refine gp_gr dX8_status_85 mf_8_10 rfl (by first | rfl | assumption | (simp only [*]; done)) (by first | rfl | assumption | (simp only [*]; done)) ?_
        refine gp_giv dX8_status_88 mf_8_161 (by decide) (by first | rfl | assumption | (simp only [*]; done)) (by first | exact e11 | exact e13 | exact hb.w hs (w := 0) (by decide) | exact hb.w hs (w := 1) (by decide) | exact hb.w hs (w := 2) (by decide) | exact hb.w hs (w := 3) (by decide) | exact hb.c15 hs | exact hb.2.2.2.2.1 | exact hb.2.2.2.2.2.1 | exact hT.1 | exact hE.2 _ zqa2 | exact rfl) ?_
        refine gp_iret dX8_status_91 rfl ?_
        first | (refine pX.mk (congrArg some (congrArg Value.int ?zqa)) hs; (case zqa => ((simp [q_ss, *]; done)))) | (refine pX.mk (congrArg some (congrArg Value.int ?zqa)) hs; (case zqa => (exact (q_ss_d zqa3 (by assumption)).symm))) | (refine pX.mk (congrArg some (congrArg Value.int ?zqa)) hs; (case zqa => (rw [hsw, bit_rl hb.rl]; rfl))) | (refine pX.mk (congrArg some (congrArg Value.int ?zqa)) hs; (case zqa => (rw [hsw]; rfl)))
      · refine gp_ts (t := 92) dX8_status_23 (by rw [hsw]; rfl) (by decide) ?_
        refine gp_aload_n dX8_status_92 rfl ?_
        refine gp_gr dX8_status_93 mf_8_10 rfl (by first | rfl | assumption | (simp only [*]; done)) (by first | rfl | assumption | (simp only [*]; done)) ?_
        refine gp_gr dX8_status_96 mf_8_227 rfl (by first | rfl | assumption | (simp only [*]; done)) (by first | rfl | assumption | (simp only [*]; done)) ?_
        refine gp_pu (st' := .int (0) :: _) dX8_status_99 rfl ?_
        refine gp_ialv dX8_status_100 rfl (by first | rfl | assumption | (simp only [*]; done)) (by first | rfl | assumption | (simp only [*]; done)) (by first | exact e11 | exact e13 | exact hb.w hs (w := 0) (by decide) | exact hb.w hs (w := 1) (by decide) | exact hb.w hs (w := 2) (by decide) | exact hb.w hs (w := 3) (by decide) | exact hb.c15 hs | exact hb.2.2.2.2.1 | exact hb.2.2.2.2.2.1 | exact hT.1 | exact hE.2 _ zqa2 | exact rfl) ?_
        refine gp_iret dX8_status_101 rfl ?_
        first | (refine pX.mk (congrArg some (congrArg Value.int ?zqa)) hs; (case zqa => ((simp [q_ss, *]; done)))) | (refine pX.mk (congrArg some (congrArg Value.int ?zqa)) hs; (case zqa => (exact (q_ss_d zqa3 (by assumption)).symm))) | (refine pX.mk (congrArg some (congrArg Value.int ?zqa)) hs; (case zqa => (rw [hsw, bit_rl hb.rl]; rfl))) | (refine pX.mk (congrArg some (congrArg Value.int ?zqa)) hs; (case zqa => (rw [hsw]; rfl)))
      · refine gp_ts (t := 102) dX8_status_23 (by rw [hsw]; rfl) (by decide) ?_
        refine gp_aload_n dX8_status_102 rfl ?_
        refine gp_gr dX8_status_103 mf_8_10 rfl (by first | rfl | assumption | (simp only [*]; done)) (by first | rfl | assumption | (simp only [*]; done)) ?_
        refine gp_gr dX8_status_106 mf_8_227 rfl (by first | rfl | assumption | (simp only [*]; done)) (by first | rfl | assumption | (simp only [*]; done)) ?_
        refine gp_pu (st' := .int (1) :: _) dX8_status_109 rfl ?_
        refine gp_ialv dX8_status_110 rfl (by first | rfl | assumption | (simp only [*]; done)) (by first | rfl | assumption | (simp only [*]; done)) (by first | exact e11 | exact e13 | exact hb.w hs (w := 0) (by decide) | exact hb.w hs (w := 1) (by decide) | exact hb.w hs (w := 2) (by decide) | exact hb.w hs (w := 3) (by decide) | exact hb.c15 hs | exact hb.2.2.2.2.1 | exact hb.2.2.2.2.2.1 | exact hT.1 | exact hE.2 _ zqa2 | exact rfl) ?_
        refine gp_iret dX8_status_111 rfl ?_
        first | (refine pX.mk (congrArg some (congrArg Value.int ?zqa)) hs; (case zqa => ((simp [q_ss, *]; done)))) | (refine pX.mk (congrArg some (congrArg Value.int ?zqa)) hs; (case zqa => (exact (q_ss_d zqa3 (by assumption)).symm))) | (refine pX.mk (congrArg some (congrArg Value.int ?zqa)) hs; (case zqa => (rw [hsw, bit_rl hb.rl]; rfl))) | (refine pX.mk (congrArg some (congrArg Value.int ?zqa)) hs; (case zqa => (rw [hsw]; rfl)))
      · refine gp_ts (t := 112) dX8_status_23 (by rw [hsw]; rfl) (by decide) ?_
        refine gp_aload_n dX8_status_112 rfl ?_
        refine gp_gr dX8_status_113 mf_8_10 rfl (by first | rfl | assumption | (simp only [*]; done)) (by first | rfl | assumption | (simp only [*]; done)) ?_
        refine gp_gr dX8_status_116 mf_8_227 rfl (by first | rfl | assumption | (simp only [*]; done)) (by first | rfl | assumption | (simp only [*]; done)) ?_
        refine gp_pu (st' := .int (2) :: _) dX8_status_119 rfl ?_
        refine gp_ialv dX8_status_120 rfl (by first | rfl | assumption | (simp only [*]; done)) (by first | rfl | assumption | (simp only [*]; done)) (by first | exact e11 | exact e13 | exact hb.w hs (w := 0) (by decide) | exact hb.w hs (w := 1) (by decide) | exact hb.w hs (w := 2) (by decide) | exact hb.w hs (w := 3) (by decide) | exact hb.c15 hs | exact hb.2.2.2.2.1 | exact hb.2.2.2.2.2.1 | exact hT.1 | exact hE.2 _ zqa2 | exact rfl) ?_
        refine gp_iret dX8_status_121 rfl ?_
        first | (refine pX.mk (congrArg some (congrArg Value.int ?zqa)) hs; (case zqa => ((simp [q_ss, *]; done)))) | (refine pX.mk (congrArg some (congrArg Value.int ?zqa)) hs; (case zqa => (exact (q_ss_d zqa3 (by assumption)).symm))) | (refine pX.mk (congrArg some (congrArg Value.int ?zqa)) hs; (case zqa => (rw [hsw, bit_rl hb.rl]; rfl))) | (refine pX.mk (congrArg some (congrArg Value.int ?zqa)) hs; (case zqa => (rw [hsw]; rfl)))
      · refine gp_ts (t := 122) dX8_status_23 (by rw [hsw]; rfl) (by decide) ?_
        refine gp_aload_n dX8_status_122 rfl ?_
        refine gp_gr dX8_status_123 mf_8_10 rfl (by first | rfl | assumption | (simp only [*]; done)) (by first | rfl | assumption | (simp only [*]; done)) ?_
        refine gp_gr dX8_status_126 mf_8_227 rfl (by first | rfl | assumption | (simp only [*]; done)) (by first | rfl | assumption | (simp only [*]; done)) ?_
        refine gp_pu (st' := .int (3) :: _) dX8_status_129 rfl ?_
        refine gp_ialv dX8_status_130 rfl (by first | rfl | assumption | (simp only [*]; done)) (by first | rfl | assumption | (simp only [*]; done)) (by first | exact e11 | exact e13 | exact hb.w hs (w := 0) (by decide) | exact hb.w hs (w := 1) (by decide) | exact hb.w hs (w := 2) (by decide) | exact hb.w hs (w := 3) (by decide) | exact hb.c15 hs | exact hb.2.2.2.2.1 | exact hb.2.2.2.2.2.1 | exact hT.1 | exact hE.2 _ zqa2 | exact rfl) ?_
        refine gp_iret dX8_status_131 rfl ?_
        first | (refine pX.mk (congrArg some (congrArg Value.int ?zqa)) hs; (case zqa => ((simp [q_ss, *]; done)))) | (refine pX.mk (congrArg some (congrArg Value.int ?zqa)) hs; (case zqa => (exact (q_ss_d zqa3 (by assumption)).symm))) | (refine pX.mk (congrArg some (congrArg Value.int ?zqa)) hs; (case zqa => (rw [hsw, bit_rl hb.rl]; rfl))) | (refine pX.mk (congrArg some (congrArg Value.int ?zqa)) hs; (case zqa => (rw [hsw]; rfl)))
      · refine gp_ts (t := 132) dX8_status_23 (by rw [hsw]; rfl) (by decide) ?_
        refine gp_aload_n dX8_status_132 rfl ?_
        refine gp_gr dX8_status_133 mf_8_10 rfl (by first | rfl | assumption | (simp only [*]; done)) (by first | rfl | assumption | (simp only [*]; done)) ?_
        refine gp_giv dX8_status_136 mf_8_233 (by decide) (by first | rfl | assumption | (simp only [*]; done)) (by first | exact e11 | exact e13 | exact hb.w hs (w := 0) (by decide) | exact hb.w hs (w := 1) (by decide) | exact hb.w hs (w := 2) (by decide) | exact hb.w hs (w := 3) (by decide) | exact hb.c15 hs | exact hb.2.2.2.2.1 | exact hb.2.2.2.2.2.1 | exact hT.1 | exact hE.2 _ zqa2 | exact rfl) ?_
        refine gp_call (kind := 0) (args := [.int _]) (rest := _) dX8_status_139 (Or.inl ⟨rfl, rfl⟩) mk_8_237 (by decide) me_105 rfl rfl rfl rfl rfl rfl (ok_X8_bit _ _ _ _) rfl ?_
        refine gp_iret dX8_status_142 rfl ?_
        first | (refine pX.mk (congrArg some (congrArg Value.int ?zqa)) hs; (case zqa => ((simp [q_ss, *]; done)))) | (refine pX.mk (congrArg some (congrArg Value.int ?zqa)) hs; (case zqa => (exact (q_ss_d zqa3 (by assumption)).symm))) | (refine pX.mk (congrArg some (congrArg Value.int ?zqa)) hs; (case zqa => (rw [hsw, bit_rl hb.rl]; rfl))) | (refine pX.mk (congrArg some (congrArg Value.int ?zqa)) hs; (case zqa => (rw [hsw]; rfl)))
      · refine gp_ts (t := 143) dX8_status_23 (by rw [hsw]; rfl) (by decide) ?_
        refine gp_aload_n dX8_status_143 rfl ?_
        refine gp_gr dX8_status_144 mf_8_10 rfl (by first | rfl | assumption | (simp only [*]; done)) (by first | rfl | assumption | (simp only [*]; done)) ?_
        refine gp_giv dX8_status_147 mf_8_356 (by decide) (by first | rfl | assumption | (simp only [*]; done)) (by first | exact e11 | exact e13 | exact hb.w hs (w := 0) (by decide) | exact hb.w hs (w := 1) (by decide) | exact hb.w hs (w := 2) (by decide) | exact hb.w hs (w := 3) (by decide) | exact hb.c15 hs | exact hb.2.2.2.2.1 | exact hb.2.2.2.2.2.1 | exact hT.1 | exact hE.2 _ zqa2 | exact rfl) ?_
        refine gp_iret dX8_status_150 rfl ?_
        first | (refine pX.mk (congrArg some (congrArg Value.int ?zqa)) hs; (case zqa => ((simp [q_ss, *]; done)))) | (refine pX.mk (congrArg some (congrArg Value.int ?zqa)) hs; (case zqa => (exact (q_ss_d zqa3 (by assumption)).symm))) | (refine pX.mk (congrArg some (congrArg Value.int ?zqa)) hs; (case zqa => (rw [hsw, bit_rl hb.rl]; rfl))) | (refine pX.mk (congrArg some (congrArg Value.int ?zqa)) hs; (case zqa => (rw [hsw]; rfl)))
      · refine gp_ts (t := 151) dX8_status_23 (by rw [hsw]; rfl) (by decide) ?_
        refine gp_aload_n dX8_status_151 rfl ?_
        refine gp_gr dX8_status_152 mf_8_10 rfl (by first | rfl | assumption | (simp only [*]; done)) (by first | rfl | assumption | (simp only [*]; done)) ?_
        refine gp_giv dX8_status_155 mf_8_340 (by decide) (by first | rfl | assumption | (simp only [*]; done)) (by first | exact e11 | exact e13 | exact hb.w hs (w := 0) (by decide) | exact hb.w hs (w := 1) (by decide) | exact hb.w hs (w := 2) (by decide) | exact hb.w hs (w := 3) (by decide) | exact hb.c15 hs | exact hb.2.2.2.2.1 | exact hb.2.2.2.2.2.1 | exact hT.1 | exact hE.2 _ zqa2 | exact rfl) ?_
        refine gp_iret dX8_status_158 rfl ?_
        first | (refine pX.mk (congrArg some (congrArg Value.int ?zqa)) hs; (case zqa => ((simp [q_ss, *]; done)))) | (refine pX.mk (congrArg some (congrArg Value.int ?zqa)) hs; (case zqa => (exact (q_ss_d zqa3 (by assumption)).symm))) | (refine pX.mk (congrArg some (congrArg Value.int ?zqa)) hs; (case zqa => (rw [hsw, bit_rl hb.rl]; rfl))) | (refine pX.mk (congrArg some (congrArg Value.int ?zqa)) hs; (case zqa => (rw [hsw]; rfl)))
      · refine gp_ts (t := 159) dX8_status_23 (by rw [hsw]; rfl) (by decide) ?_
        refine gp_aload_n dX8_status_159 rfl ?_
        refine gp_gr dX8_status_160 mf_8_56 rfl (by first | rfl | assumption | (simp only [*]; done)) (by first | rfl | assumption | (simp only [*]; done)) ?_
        refine gp_giv dX8_status_163 mf_8_359 (by decide) (by first | rfl | assumption | (simp only [*]; done)) (by first | exact e11 | exact e13 | exact hb.w hs (w := 0) (by decide) | exact hb.w hs (w := 1) (by decide) | exact hb.w hs (w := 2) (by decide) | exact hb.w hs (w := 3) (by decide) | exact hb.c15 hs | exact hb.2.2.2.2.1 | exact hb.2.2.2.2.2.1 | exact hT.1 | exact hE.2 _ zqa2 | exact rfl) ?_
        refine gp_iret dX8_status_166 rfl ?_
        first | (refine pX.mk (congrArg some (congrArg Value.int ?zqa)) hs; (case zqa => ((simp [q_ss, *]; done)))) | (refine pX.mk (congrArg some (congrArg Value.int ?zqa)) hs; (case zqa => (exact (q_ss_d zqa3 (by assumption)).symm))) | (refine pX.mk (congrArg some (congrArg Value.int ?zqa)) hs; (case zqa => (rw [hsw, bit_rl hb.rl]; rfl))) | (refine pX.mk (congrArg some (congrArg Value.int ?zqa)) hs; (case zqa => (rw [hsw]; rfl)))
      · refine gp_ts (t := 167) dX8_status_23 (if_pos (sd_9 hsw)) (by decide) ?_
        refine gp_pu (st' := .int (-1) :: _) dX8_status_167 rfl ?_
        refine gp_iret dX8_status_168 rfl ?_
        first | (refine pX.mk (congrArg some (congrArg Value.int ?zqa)) hs; (case zqa => ((simp [q_ss, *]; done)))) | (refine pX.mk (congrArg some (congrArg Value.int ?zqa)) hs; (case zqa => (exact (q_ss_d zqa3 (by assumption)).symm))) | (refine pX.mk (congrArg some (congrArg Value.int ?zqa)) hs; (case zqa => (rw [hsw, bit_rl hb.rl]; rfl))) | (refine pX.mk (congrArg some (congrArg Value.int ?zqa)) hs; (case zqa => (rw [hsw]; rfl)))
    · have h2' := Int32.not_lt.mp h2
      (try simp only [bi_0, bi_1, Classical.not_not, e11, e13] at h2)
      obtain ⟨zqa1, zqa2⟩ := w_10 (w := w) (Int32.not_le.mp (by assumption)) (Int32.not_lt.mp (by assumption))
      refine gp_aload_n dX8_status_12 rfl ?_
      refine gp_gr dX8_status_13 mf_8_67 rfl (by first | rfl | assumption | (simp only [*]; done)) (by first | rfl | assumption | (simp only [*]; done)) ?_
      refine gp_iload_n dX8_status_16 rfl ?_
      refine gp_pu (st' := .int (10) :: _) dX8_status_17 rfl ?_
      refine gp_pu (st' := .int _ :: _) dX8_status_19 rfl ?_
      refine gp_ialv dX8_status_20 rfl (by first | rfl | assumption | (simp only [*]; done)) (by first | rfl | assumption | (simp only [*]; done)) (by first | exact e11 | exact e13 | exact hb.w hs (w := 0) (by decide) | exact hb.w hs (w := 1) (by decide) | exact hb.w hs (w := 2) (by decide) | exact hb.w hs (w := 3) (by decide) | exact hb.c15 hs | exact hb.2.2.2.2.1 | exact hb.2.2.2.2.2.1 | exact hT.1 | exact hE.2 _ zqa2 | exact rfl) ?_
      refine gp_iret dX8_status_21 rfl ?_
      first | (refine pX.mk (congrArg some (congrArg Value.int ?zqa)) hs; (case zqa => ((simp [q_ss, *]; done)))) | (refine pX.mk (congrArg some (congrArg Value.int ?zqa)) hs; (case zqa => (exact (q_ss_d zqa3 (by assumption)).symm))) | (refine pX.mk (congrArg some (congrArg Value.int ?zqa)) hs; (case zqa => (rw [hsw, bit_rl hb.rl]; rfl))) | (refine pX.mk (congrArg some (congrArg Value.int ?zqa)) hs; (case zqa => (rw [hsw]; rfl)))

theorem q_ss_told {w : Int32} (h0 : ¬ w < 2) (h1 : ¬ 5 < w) : q_ss I N S w = q_told I (w - 2) := by
  rcases sw_25 h0 h1 with rfl | rfl | rfl | rfl <;> simp [q_ss, q_told]
theorem sw_st {w : Int32} (h : w < 2 ∨ 5 < w) : w = 0 ∨ w = 1 ∨ w = 6 ∨ w = 7 ∨ w = 8 ∨ w = 9 ∨ (w < 0 ∨ 9 < w) := by
  simp only [ti_eq, ti_lt, show (0 : Int32).toInt = 0 from by decide, show (1 : Int32).toInt = 1 from by decide, show (2 : Int32).toInt = 2 from by decide, show (5 : Int32).toInt = 5 from by decide, show (6 : Int32).toInt = 6 from by decide, show (7 : Int32).toInt = 7 from by decide, show (8 : Int32).toInt = 8 from by decide, show (9 : Int32).toInt = 9 from by decide] at h ⊢
  omega

set_option maxHeartbeats 400000 in
theorem ml_status (d : Nat) (v : vN I N S) (hs : mR I C J) {w : Int32} : cP (d + 2) 220 [.ref 108, .int w] (mm_sh, mm_R, J, L) (pX (some (.int (q_ss I N S w))) L (mR I C)) := by
  have m0 : J 108 0 = nI N := (hs.r (by decide)).trans v.2.2.1
  have m1 : J 108 1 = nI S := (hs.r (by decide)).trans v.2.2.2.1
  refine cP.of_gP (d := d + 1) me_220 ⟨Nat.le_of_ble_eq_true rfl, rfl⟩ ?_
  show gP mm_cs0 _ _ _ _ _ _ [some (.ref _), some (.int _)] [] _ _
  refine gp_iload_n dX9_status_0 rfl ?_
  refine gp_pu (st' := .int (11) :: _) dX9_status_1 rfl ?_
  refine gp_icc (t := 22) dX9_status_3 (by decide) c2_lt (fun h1 => ?_) (fun h1 => ?_)
  · have h1' := Int32.not_le.mpr h1
    (try simp only [bi_0, bi_1, Classical.not_not, m0, m1] at h1)
    have zqa3 : ¬ (10 < w ∧ w ≤ 17) := by first | (rw [w_11] at h1; exact fun z => h1 z.1) | exact fun z => absurd (by assumption) (Int32.not_lt.mpr z.2)
    refine gp_iload_n dX9_status_22 rfl ?_
    refine gp_pu (st' := .int (2) :: _) dX9_status_23 rfl ?_
    refine gp_icc (t := 40) dX9_status_24 (by decide) c2_lt (fun h2 => ?_) (fun h2 => ?_)
    · have h2' := Int32.not_le.mpr h2
      (try simp only [bi_0, bi_1, Classical.not_not, m0, m1] at h2)
      refine gp_iload_n dX9_status_40 rfl ?_
      rcases sw_st (w := w) (by first | exact Or.inl (by assumption) | exact Or.inr (by assumption)) with hsw | hsw | hsw | hsw | hsw | hsw | hsw
      · refine gp_ts (t := 96) dX9_status_41 (by rw [hsw]; rfl) (by decide) ?_
        refine gp_aload_n dX9_status_96 rfl ?_
        refine gp_giv dX9_status_97 mf_9_117 (by decide) (by first | rfl | assumption | (simp only [*]; done)) (by first | exact m0 | exact m1 | exact hs.1 _ _ rfl | exact rfl) ?_
        refine gp_iret dX9_status_100 rfl ?_
        first | (refine pX.mk (congrArg some (congrArg Value.int ?zqa)) hK1; (case zqa => (exact (q_ss_told (by assumption) (by assumption)).symm))) | (refine pX.mk (congrArg some (congrArg Value.int ?zqa)) hs; (case zqa => (exact (q_ss_d zqa3 (by assumption)).symm))) | (refine pX.mk (congrArg some (congrArg Value.int ?zqa)) hs; (case zqa => ((simp [q_ss, *]; done)))) | (refine pX.mk (congrArg some (congrArg Value.int ?zqa)) hs; (case zqa => (rw [hsw]; rfl)))
      · refine gp_ts (t := 101) dX9_status_41 (by rw [hsw]; rfl) (by decide) ?_
        refine gp_aload_n dX9_status_101 rfl ?_
        refine gp_giv dX9_status_102 mf_9_120 (by decide) (by first | rfl | assumption | (simp only [*]; done)) (by first | exact m0 | exact m1 | exact hs.1 _ _ rfl | exact rfl) ?_
        refine gp_iret dX9_status_105 rfl ?_
        first | (refine pX.mk (congrArg some (congrArg Value.int ?zqa)) hK1; (case zqa => (exact (q_ss_told (by assumption) (by assumption)).symm))) | (refine pX.mk (congrArg some (congrArg Value.int ?zqa)) hs; (case zqa => (exact (q_ss_d zqa3 (by assumption)).symm))) | (refine pX.mk (congrArg some (congrArg Value.int ?zqa)) hs; (case zqa => ((simp [q_ss, *]; done)))) | (refine pX.mk (congrArg some (congrArg Value.int ?zqa)) hs; (case zqa => (rw [hsw]; rfl)))
      · refine gp_ts (t := 106) dX9_status_41 (by rw [hsw]; rfl) (by decide) ?_
        refine gp_aload_n dX9_status_106 rfl ?_
        refine gp_giv dX9_status_107 mf_9_170 (by decide) (by first | rfl | assumption | (simp only [*]; done)) (by first | exact m0 | exact m1 | exact hs.1 _ _ rfl | exact rfl) ?_
        refine gp_iret dX9_status_110 rfl ?_
        first | (refine pX.mk (congrArg some (congrArg Value.int ?zqa)) hK1; (case zqa => (exact (q_ss_told (by assumption) (by assumption)).symm))) | (refine pX.mk (congrArg some (congrArg Value.int ?zqa)) hs; (case zqa => (exact (q_ss_d zqa3 (by assumption)).symm))) | (refine pX.mk (congrArg some (congrArg Value.int ?zqa)) hs; (case zqa => ((simp [q_ss, *]; done)))) | (refine pX.mk (congrArg some (congrArg Value.int ?zqa)) hs; (case zqa => (rw [hsw]; rfl)))
      · refine gp_ts (t := 111) dX9_status_41 (by rw [hsw]; rfl) (by decide) ?_
        refine gp_aload_n dX9_status_111 rfl ?_
        refine gp_giv dX9_status_112 mf_9_211 (by decide) (by first | rfl | assumption | (simp only [*]; done)) (by first | exact m0 | exact m1 | exact hs.1 _ _ rfl | exact rfl) ?_
        refine gp_iret dX9_status_115 rfl ?_
        first | (refine pX.mk (congrArg some (congrArg Value.int ?zqa)) hK1; (case zqa => (exact (q_ss_told (by assumption) (by assumption)).symm))) | (refine pX.mk (congrArg some (congrArg Value.int ?zqa)) hs; (case zqa => (exact (q_ss_d zqa3 (by assumption)).symm))) | (refine pX.mk (congrArg some (congrArg Value.int ?zqa)) hs; (case zqa => ((simp [q_ss, *]; done)))) | (refine pX.mk (congrArg some (congrArg Value.int ?zqa)) hs; (case zqa => (rw [hsw]; rfl)))
      · refine gp_ts (t := 116) dX9_status_41 (by rw [hsw]; rfl) (by decide) ?_
        refine gp_aload_n dX9_status_116 rfl ?_
        refine gp_giv dX9_status_117 mf_9_22 (by decide) (by first | rfl | assumption | (simp only [*]; done)) (by first | exact m0 | exact m1 | exact hs.1 _ _ rfl | exact rfl) ?_
        refine gp_iret dX9_status_120 rfl ?_
        first | (refine pX.mk (congrArg some (congrArg Value.int ?zqa)) hK1; (case zqa => (exact (q_ss_told (by assumption) (by assumption)).symm))) | (refine pX.mk (congrArg some (congrArg Value.int ?zqa)) hs; (case zqa => (exact (q_ss_d zqa3 (by assumption)).symm))) | (refine pX.mk (congrArg some (congrArg Value.int ?zqa)) hs; (case zqa => ((simp [q_ss, *]; done)))) | (refine pX.mk (congrArg some (congrArg Value.int ?zqa)) hs; (case zqa => (rw [hsw]; rfl)))
      · refine gp_ts (t := 121) dX9_status_41 (by rw [hsw]; rfl) (by decide) ?_
        refine gp_aload_n dX9_status_121 rfl ?_
        refine gp_giv dX9_status_122 mf_9_346 (by decide) (by first | rfl | assumption | (simp only [*]; done)) (by first | exact m0 | exact m1 | exact hs.1 _ _ rfl | exact rfl) ?_
        refine gp_iret dX9_status_125 rfl ?_
        first | (refine pX.mk (congrArg some (congrArg Value.int ?zqa)) hK1; (case zqa => (exact (q_ss_told (by assumption) (by assumption)).symm))) | (refine pX.mk (congrArg some (congrArg Value.int ?zqa)) hs; (case zqa => (exact (q_ss_d zqa3 (by assumption)).symm))) | (refine pX.mk (congrArg some (congrArg Value.int ?zqa)) hs; (case zqa => ((simp [q_ss, *]; done)))) | (refine pX.mk (congrArg some (congrArg Value.int ?zqa)) hs; (case zqa => (rw [hsw]; rfl)))
      · refine gp_ts (t := 126) dX9_status_41 (if_pos (sd_9 hsw)) (by decide) ?_
        refine gp_pu (st' := .int (-1) :: _) dX9_status_126 rfl ?_
        refine gp_iret dX9_status_127 rfl ?_
        first | (refine pX.mk (congrArg some (congrArg Value.int ?zqa)) hK1; (case zqa => (exact (q_ss_told (by assumption) (by assumption)).symm))) | (refine pX.mk (congrArg some (congrArg Value.int ?zqa)) hs; (case zqa => (exact (q_ss_d zqa3 (by assumption)).symm))) | (refine pX.mk (congrArg some (congrArg Value.int ?zqa)) hs; (case zqa => ((simp [q_ss, *]; done)))) | (refine pX.mk (congrArg some (congrArg Value.int ?zqa)) hs; (case zqa => (rw [hsw]; rfl)))
    · have h2' := Int32.not_lt.mp h2
      (try simp only [bi_0, bi_1, Classical.not_not, m0, m1] at h2)
      refine gp_iload_n dX9_status_27 rfl ?_
      refine gp_pu (st' := .int (5) :: _) dX9_status_28 rfl ?_
      refine gp_icc (t := 40) dX9_status_29 (by decide) c2_gt (fun h3 => ?_) (fun h3 => ?_)
      · have h3' := Int32.not_le.mpr h3
        (try simp only [bi_0, bi_1, Classical.not_not, m0, m1] at h3)
        refine gp_iload_n dX9_status_40 rfl ?_
        rcases sw_st (w := w) (by first | exact Or.inl (by assumption) | exact Or.inr (by assumption)) with hsw | hsw | hsw | hsw | hsw | hsw | hsw
        · refine gp_ts (t := 96) dX9_status_41 (by rw [hsw]; rfl) (by decide) ?_
          refine gp_aload_n dX9_status_96 rfl ?_
          refine gp_giv dX9_status_97 mf_9_117 (by decide) (by first | rfl | assumption | (simp only [*]; done)) (by first | exact m0 | exact m1 | exact hs.1 _ _ rfl | exact rfl) ?_
          refine gp_iret dX9_status_100 rfl ?_
          first | (refine pX.mk (congrArg some (congrArg Value.int ?zqa)) hK1; (case zqa => (exact (q_ss_told (by assumption) (by assumption)).symm))) | (refine pX.mk (congrArg some (congrArg Value.int ?zqa)) hs; (case zqa => (exact (q_ss_d zqa3 (by assumption)).symm))) | (refine pX.mk (congrArg some (congrArg Value.int ?zqa)) hs; (case zqa => ((simp [q_ss, *]; done)))) | (refine pX.mk (congrArg some (congrArg Value.int ?zqa)) hs; (case zqa => (rw [hsw]; rfl)))
        · refine gp_ts (t := 101) dX9_status_41 (by rw [hsw]; rfl) (by decide) ?_
          refine gp_aload_n dX9_status_101 rfl ?_
          refine gp_giv dX9_status_102 mf_9_120 (by decide) (by first | rfl | assumption | (simp only [*]; done)) (by first | exact m0 | exact m1 | exact hs.1 _ _ rfl | exact rfl) ?_
          refine gp_iret dX9_status_105 rfl ?_
          first | (refine pX.mk (congrArg some (congrArg Value.int ?zqa)) hK1; (case zqa => (exact (q_ss_told (by assumption) (by assumption)).symm))) | (refine pX.mk (congrArg some (congrArg Value.int ?zqa)) hs; (case zqa => (exact (q_ss_d zqa3 (by assumption)).symm))) | (refine pX.mk (congrArg some (congrArg Value.int ?zqa)) hs; (case zqa => ((simp [q_ss, *]; done)))) | (refine pX.mk (congrArg some (congrArg Value.int ?zqa)) hs; (case zqa => (rw [hsw]; rfl)))
        · refine gp_ts (t := 106) dX9_status_41 (by rw [hsw]; rfl) (by decide) ?_
          refine gp_aload_n dX9_status_106 rfl ?_
          refine gp_giv dX9_status_107 mf_9_170 (by decide) (by first | rfl | assumption | (simp only [*]; done)) (by first | exact m0 | exact m1 | exact hs.1 _ _ rfl | exact rfl) ?_
          refine gp_iret dX9_status_110 rfl ?_
          first | (refine pX.mk (congrArg some (congrArg Value.int ?zqa)) hK1; (case zqa => (exact (q_ss_told (by assumption) (by assumption)).symm))) | (refine pX.mk (congrArg some (congrArg Value.int ?zqa)) hs; (case zqa => (exact (q_ss_d zqa3 (by assumption)).symm))) | (refine pX.mk (congrArg some (congrArg Value.int ?zqa)) hs; (case zqa => ((simp [q_ss, *]; done)))) | (refine pX.mk (congrArg some (congrArg Value.int ?zqa)) hs; (case zqa => (rw [hsw]; rfl)))
        · refine gp_ts (t := 111) dX9_status_41 (by rw [hsw]; rfl) (by decide) ?_
          refine gp_aload_n dX9_status_111 rfl ?_
          refine gp_giv dX9_status_112 mf_9_211 (by decide) (by first | rfl | assumption | (simp only [*]; done)) (by first | exact m0 | exact m1 | exact hs.1 _ _ rfl | exact rfl) ?_
          refine gp_iret dX9_status_115 rfl ?_
          first | (refine pX.mk (congrArg some (congrArg Value.int ?zqa)) hK1; (case zqa => (exact (q_ss_told (by assumption) (by assumption)).symm))) | (refine pX.mk (congrArg some (congrArg Value.int ?zqa)) hs; (case zqa => (exact (q_ss_d zqa3 (by assumption)).symm))) | (refine pX.mk (congrArg some (congrArg Value.int ?zqa)) hs; (case zqa => ((simp [q_ss, *]; done)))) | (refine pX.mk (congrArg some (congrArg Value.int ?zqa)) hs; (case zqa => (rw [hsw]; rfl)))
        · refine gp_ts (t := 116) dX9_status_41 (by rw [hsw]; rfl) (by decide) ?_
          refine gp_aload_n dX9_status_116 rfl ?_
          refine gp_giv dX9_status_117 mf_9_22 (by decide) (by first | rfl | assumption | (simp only [*]; done)) (by first | exact m0 | exact m1 | exact hs.1 _ _ rfl | exact rfl) ?_
          refine gp_iret dX9_status_120 rfl ?_
          first | (refine pX.mk (congrArg some (congrArg Value.int ?zqa)) hK1; (case zqa => (exact (q_ss_told (by assumption) (by assumption)).symm))) | (refine pX.mk (congrArg some (congrArg Value.int ?zqa)) hs; (case zqa => (exact (q_ss_d zqa3 (by assumption)).symm))) | (refine pX.mk (congrArg some (congrArg Value.int ?zqa)) hs; (case zqa => ((simp [q_ss, *]; done)))) | (refine pX.mk (congrArg some (congrArg Value.int ?zqa)) hs; (case zqa => (rw [hsw]; rfl)))
        · refine gp_ts (t := 121) dX9_status_41 (by rw [hsw]; rfl) (by decide) ?_
          refine gp_aload_n dX9_status_121 rfl ?_
          refine gp_giv dX9_status_122 mf_9_346 (by decide) (by first | rfl | assumption | (simp only [*]; done)) (by first | exact m0 | exact m1 | exact hs.1 _ _ rfl | exact rfl) ?_
          refine gp_iret dX9_status_125 rfl ?_
          first | (refine pX.mk (congrArg some (congrArg Value.int ?zqa)) hK1; (case zqa => (exact (q_ss_told (by assumption) (by assumption)).symm))) | (refine pX.mk (congrArg some (congrArg Value.int ?zqa)) hs; (case zqa => (exact (q_ss_d zqa3 (by assumption)).symm))) | (refine pX.mk (congrArg some (congrArg Value.int ?zqa)) hs; (case zqa => ((simp [q_ss, *]; done)))) | (refine pX.mk (congrArg some (congrArg Value.int ?zqa)) hs; (case zqa => (rw [hsw]; rfl)))
        · refine gp_ts (t := 126) dX9_status_41 (if_pos (sd_9 hsw)) (by decide) ?_
          refine gp_pu (st' := .int (-1) :: _) dX9_status_126 rfl ?_
          refine gp_iret dX9_status_127 rfl ?_
          first | (refine pX.mk (congrArg some (congrArg Value.int ?zqa)) hK1; (case zqa => (exact (q_ss_told (by assumption) (by assumption)).symm))) | (refine pX.mk (congrArg some (congrArg Value.int ?zqa)) hs; (case zqa => (exact (q_ss_d zqa3 (by assumption)).symm))) | (refine pX.mk (congrArg some (congrArg Value.int ?zqa)) hs; (case zqa => ((simp [q_ss, *]; done)))) | (refine pX.mk (congrArg some (congrArg Value.int ?zqa)) hs; (case zqa => (rw [hsw]; rfl)))
      · have h3' := Int32.not_lt.mp h3
        (try simp only [bi_0, bi_1, Classical.not_not, m0, m1] at h3)
        refine gp_aload_n dX9_status_32 rfl ?_
        refine gp_iload_n dX9_status_33 rfl ?_
        refine gp_pu (st' := .int (2) :: _) dX9_status_34 rfl ?_
        refine gp_pu (st' := .int _ :: _) dX9_status_35 rfl ?_
        refine gp_callX (kind := 1) (args := [.ref _, .int _]) (rest := _) dX9_status_36 (Or.inr (Or.inl ⟨rfl, rfl⟩)) mk_9_163 (by decide) me_151 rfl rfl rfl rfl rfl (mm_rc_of (by first | rfl | assumption | (simp only [*]; done))) (ml_told _ v hs) ?_
        intro K1 hK1
        refine gp_iret dX9_status_39 rfl ?_
        first | (refine pX.mk (congrArg some (congrArg Value.int ?zqa)) hK1; (case zqa => (exact (q_ss_told (by assumption) (by assumption)).symm))) | (refine pX.mk (congrArg some (congrArg Value.int ?zqa)) hs; (case zqa => (exact (q_ss_d zqa3 (by assumption)).symm))) | (refine pX.mk (congrArg some (congrArg Value.int ?zqa)) hs; (case zqa => ((simp [q_ss, *]; done)))) | (refine pX.mk (congrArg some (congrArg Value.int ?zqa)) hs; (case zqa => (rw [hsw]; rfl)))
  · have h1' := Int32.not_lt.mp h1
    (try simp only [bi_0, bi_1, Classical.not_not, m0, m1] at h1)
    refine gp_iload_n dX9_status_6 rfl ?_
    refine gp_pu (st' := .int (17) :: _) dX9_status_7 rfl ?_
    refine gp_icc (t := 22) dX9_status_9 (by decide) c2_gt (fun h4 => ?_) (fun h4 => ?_)
    · have h4' := Int32.not_le.mpr h4
      (try simp only [bi_0, bi_1, Classical.not_not, m0, m1] at h4)
      have zqa3 : ¬ (10 < w ∧ w ≤ 17) := by first | (rw [w_11] at h1; exact fun z => h1 z.1) | exact fun z => absurd (by assumption) (Int32.not_lt.mpr z.2)
      refine gp_iload_n dX9_status_22 rfl ?_
      refine gp_pu (st' := .int (2) :: _) dX9_status_23 rfl ?_
      refine gp_icc (t := 40) dX9_status_24 (by decide) c2_lt (fun h5 => ?_) (fun h5 => ?_)
      · have h5' := Int32.not_le.mpr h5
        (try simp only [bi_0, bi_1, Classical.not_not, m0, m1] at h5)
        refine gp_iload_n dX9_status_40 rfl ?_
        rcases sw_st (w := w) (by first | exact Or.inl (by assumption) | exact Or.inr (by assumption)) with hsw | hsw | hsw | hsw | hsw | hsw | hsw
        · refine gp_ts (t := 96) dX9_status_41 (by rw [hsw]; rfl) (by decide) ?_
          refine gp_aload_n dX9_status_96 rfl ?_
          refine gp_giv dX9_status_97 mf_9_117 (by decide) (by first | rfl | assumption | (simp only [*]; done)) (by first | exact m0 | exact m1 | exact hs.1 _ _ rfl | exact rfl) ?_
          refine gp_iret dX9_status_100 rfl ?_
          first | (refine pX.mk (congrArg some (congrArg Value.int ?zqa)) hK1; (case zqa => (exact (q_ss_told (by assumption) (by assumption)).symm))) | (refine pX.mk (congrArg some (congrArg Value.int ?zqa)) hs; (case zqa => (exact (q_ss_d zqa3 (by assumption)).symm))) | (refine pX.mk (congrArg some (congrArg Value.int ?zqa)) hs; (case zqa => ((simp [q_ss, *]; done)))) | (refine pX.mk (congrArg some (congrArg Value.int ?zqa)) hs; (case zqa => (rw [hsw]; rfl)))
        · refine gp_ts (t := 101) dX9_status_41 (by rw [hsw]; rfl) (by decide) ?_
          refine gp_aload_n dX9_status_101 rfl ?_
          refine gp_giv dX9_status_102 mf_9_120 (by decide) (by first | rfl | assumption | (simp only [*]; done)) (by first | exact m0 | exact m1 | exact hs.1 _ _ rfl | exact rfl) ?_
          refine gp_iret dX9_status_105 rfl ?_
          first | (refine pX.mk (congrArg some (congrArg Value.int ?zqa)) hK1; (case zqa => (exact (q_ss_told (by assumption) (by assumption)).symm))) | (refine pX.mk (congrArg some (congrArg Value.int ?zqa)) hs; (case zqa => (exact (q_ss_d zqa3 (by assumption)).symm))) | (refine pX.mk (congrArg some (congrArg Value.int ?zqa)) hs; (case zqa => ((simp [q_ss, *]; done)))) | (refine pX.mk (congrArg some (congrArg Value.int ?zqa)) hs; (case zqa => (rw [hsw]; rfl)))
        · refine gp_ts (t := 106) dX9_status_41 (by rw [hsw]; rfl) (by decide) ?_
          refine gp_aload_n dX9_status_106 rfl ?_
          refine gp_giv dX9_status_107 mf_9_170 (by decide) (by first | rfl | assumption | (simp only [*]; done)) (by first | exact m0 | exact m1 | exact hs.1 _ _ rfl | exact rfl) ?_
          refine gp_iret dX9_status_110 rfl ?_
          first | (refine pX.mk (congrArg some (congrArg Value.int ?zqa)) hK1; (case zqa => (exact (q_ss_told (by assumption) (by assumption)).symm))) | (refine pX.mk (congrArg some (congrArg Value.int ?zqa)) hs; (case zqa => (exact (q_ss_d zqa3 (by assumption)).symm))) | (refine pX.mk (congrArg some (congrArg Value.int ?zqa)) hs; (case zqa => ((simp [q_ss, *]; done)))) | (refine pX.mk (congrArg some (congrArg Value.int ?zqa)) hs; (case zqa => (rw [hsw]; rfl)))
        · refine gp_ts (t := 111) dX9_status_41 (by rw [hsw]; rfl) (by decide) ?_
          refine gp_aload_n dX9_status_111 rfl ?_
          refine gp_giv dX9_status_112 mf_9_211 (by decide) (by first | rfl | assumption | (simp only [*]; done)) (by first | exact m0 | exact m1 | exact hs.1 _ _ rfl | exact rfl) ?_
          refine gp_iret dX9_status_115 rfl ?_
          first | (refine pX.mk (congrArg some (congrArg Value.int ?zqa)) hK1; (case zqa => (exact (q_ss_told (by assumption) (by assumption)).symm))) | (refine pX.mk (congrArg some (congrArg Value.int ?zqa)) hs; (case zqa => (exact (q_ss_d zqa3 (by assumption)).symm))) | (refine pX.mk (congrArg some (congrArg Value.int ?zqa)) hs; (case zqa => ((simp [q_ss, *]; done)))) | (refine pX.mk (congrArg some (congrArg Value.int ?zqa)) hs; (case zqa => (rw [hsw]; rfl)))
        · refine gp_ts (t := 116) dX9_status_41 (by rw [hsw]; rfl) (by decide) ?_
          refine gp_aload_n dX9_status_116 rfl ?_
          refine gp_giv dX9_status_117 mf_9_22 (by decide) (by first | rfl | assumption | (simp only [*]; done)) (by first | exact m0 | exact m1 | exact hs.1 _ _ rfl | exact rfl) ?_
          refine gp_iret dX9_status_120 rfl ?_
          first | (refine pX.mk (congrArg some (congrArg Value.int ?zqa)) hK1; (case zqa => (exact (q_ss_told (by assumption) (by assumption)).symm))) | (refine pX.mk (congrArg some (congrArg Value.int ?zqa)) hs; (case zqa => (exact (q_ss_d zqa3 (by assumption)).symm))) | (refine pX.mk (congrArg some (congrArg Value.int ?zqa)) hs; (case zqa => ((simp [q_ss, *]; done)))) | (refine pX.mk (congrArg some (congrArg Value.int ?zqa)) hs; (case zqa => (rw [hsw]; rfl)))
        · refine gp_ts (t := 121) dX9_status_41 (by rw [hsw]; rfl) (by decide) ?_
          refine gp_aload_n dX9_status_121 rfl ?_
          refine gp_giv dX9_status_122 mf_9_346 (by decide) (by first | rfl | assumption | (simp only [*]; done)) (by first | exact m0 | exact m1 | exact hs.1 _ _ rfl | exact rfl) ?_
          refine gp_iret dX9_status_125 rfl ?_
          first | (refine pX.mk (congrArg some (congrArg Value.int ?zqa)) hK1; (case zqa => (exact (q_ss_told (by assumption) (by assumption)).symm))) | (refine pX.mk (congrArg some (congrArg Value.int ?zqa)) hs; (case zqa => (exact (q_ss_d zqa3 (by assumption)).symm))) | (refine pX.mk (congrArg some (congrArg Value.int ?zqa)) hs; (case zqa => ((simp [q_ss, *]; done)))) | (refine pX.mk (congrArg some (congrArg Value.int ?zqa)) hs; (case zqa => (rw [hsw]; rfl)))
        · refine gp_ts (t := 126) dX9_status_41 (if_pos (sd_9 hsw)) (by decide) ?_
          refine gp_pu (st' := .int (-1) :: _) dX9_status_126 rfl ?_
          refine gp_iret dX9_status_127 rfl ?_
          first | (refine pX.mk (congrArg some (congrArg Value.int ?zqa)) hK1; (case zqa => (exact (q_ss_told (by assumption) (by assumption)).symm))) | (refine pX.mk (congrArg some (congrArg Value.int ?zqa)) hs; (case zqa => (exact (q_ss_d zqa3 (by assumption)).symm))) | (refine pX.mk (congrArg some (congrArg Value.int ?zqa)) hs; (case zqa => ((simp [q_ss, *]; done)))) | (refine pX.mk (congrArg some (congrArg Value.int ?zqa)) hs; (case zqa => (rw [hsw]; rfl)))
      · have h5' := Int32.not_lt.mp h5
        (try simp only [bi_0, bi_1, Classical.not_not, m0, m1] at h5)
        refine gp_iload_n dX9_status_27 rfl ?_
        refine gp_pu (st' := .int (5) :: _) dX9_status_28 rfl ?_
        refine gp_icc (t := 40) dX9_status_29 (by decide) c2_gt (fun h6 => ?_) (fun h6 => ?_)
        · have h6' := Int32.not_le.mpr h6
          (try simp only [bi_0, bi_1, Classical.not_not, m0, m1] at h6)
          refine gp_iload_n dX9_status_40 rfl ?_
          rcases sw_st (w := w) (by first | exact Or.inl (by assumption) | exact Or.inr (by assumption)) with hsw | hsw | hsw | hsw | hsw | hsw | hsw
          · refine gp_ts (t := 96) dX9_status_41 (by rw [hsw]; rfl) (by decide) ?_
            refine gp_aload_n dX9_status_96 rfl ?_
            refine gp_giv dX9_status_97 mf_9_117 (by decide) (by first | rfl | assumption | (simp only [*]; done)) (by first | exact m0 | exact m1 | exact hs.1 _ _ rfl | exact rfl) ?_
            refine gp_iret dX9_status_100 rfl ?_
            first | (refine pX.mk (congrArg some (congrArg Value.int ?zqa)) hK1; (case zqa => (exact (q_ss_told (by assumption) (by assumption)).symm))) | (refine pX.mk (congrArg some (congrArg Value.int ?zqa)) hs; (case zqa => (exact (q_ss_d zqa3 (by assumption)).symm))) | (refine pX.mk (congrArg some (congrArg Value.int ?zqa)) hs; (case zqa => ((simp [q_ss, *]; done)))) | (refine pX.mk (congrArg some (congrArg Value.int ?zqa)) hs; (case zqa => (rw [hsw]; rfl)))
          · refine gp_ts (t := 101) dX9_status_41 (by rw [hsw]; rfl) (by decide) ?_
            refine gp_aload_n dX9_status_101 rfl ?_
            refine gp_giv dX9_status_102 mf_9_120 (by decide) (by first | rfl | assumption | (simp only [*]; done)) (by first | exact m0 | exact m1 | exact hs.1 _ _ rfl | exact rfl) ?_
            refine gp_iret dX9_status_105 rfl ?_
            first | (refine pX.mk (congrArg some (congrArg Value.int ?zqa)) hK1; (case zqa => (exact (q_ss_told (by assumption) (by assumption)).symm))) | (refine pX.mk (congrArg some (congrArg Value.int ?zqa)) hs; (case zqa => (exact (q_ss_d zqa3 (by assumption)).symm))) | (refine pX.mk (congrArg some (congrArg Value.int ?zqa)) hs; (case zqa => ((simp [q_ss, *]; done)))) | (refine pX.mk (congrArg some (congrArg Value.int ?zqa)) hs; (case zqa => (rw [hsw]; rfl)))
          · refine gp_ts (t := 106) dX9_status_41 (by rw [hsw]; rfl) (by decide) ?_
            refine gp_aload_n dX9_status_106 rfl ?_
            refine gp_giv dX9_status_107 mf_9_170 (by decide) (by first | rfl | assumption | (simp only [*]; done)) (by first | exact m0 | exact m1 | exact hs.1 _ _ rfl | exact rfl) ?_
            refine gp_iret dX9_status_110 rfl ?_
            first | (refine pX.mk (congrArg some (congrArg Value.int ?zqa)) hK1; (case zqa => (exact (q_ss_told (by assumption) (by assumption)).symm))) | (refine pX.mk (congrArg some (congrArg Value.int ?zqa)) hs; (case zqa => (exact (q_ss_d zqa3 (by assumption)).symm))) | (refine pX.mk (congrArg some (congrArg Value.int ?zqa)) hs; (case zqa => ((simp [q_ss, *]; done)))) | (refine pX.mk (congrArg some (congrArg Value.int ?zqa)) hs; (case zqa => (rw [hsw]; rfl)))
          · refine gp_ts (t := 111) dX9_status_41 (by rw [hsw]; rfl) (by decide) ?_
            refine gp_aload_n dX9_status_111 rfl ?_
            refine gp_giv dX9_status_112 mf_9_211 (by decide) (by first | rfl | assumption | (simp only [*]; done)) (by first | exact m0 | exact m1 | exact hs.1 _ _ rfl | exact rfl) ?_
            refine gp_iret dX9_status_115 rfl ?_
            first | (refine pX.mk (congrArg some (congrArg Value.int ?zqa)) hK1; (case zqa => (exact (q_ss_told (by assumption) (by assumption)).symm))) | (refine pX.mk (congrArg some (congrArg Value.int ?zqa)) hs; (case zqa => (exact (q_ss_d zqa3 (by assumption)).symm))) | (refine pX.mk (congrArg some (congrArg Value.int ?zqa)) hs; (case zqa => ((simp [q_ss, *]; done)))) | (refine pX.mk (congrArg some (congrArg Value.int ?zqa)) hs; (case zqa => (rw [hsw]; rfl)))
          · refine gp_ts (t := 116) dX9_status_41 (by rw [hsw]; rfl) (by decide) ?_
            refine gp_aload_n dX9_status_116 rfl ?_
            refine gp_giv dX9_status_117 mf_9_22 (by decide) (by first | rfl | assumption | (simp only [*]; done)) (by first | exact m0 | exact m1 | exact hs.1 _ _ rfl | exact rfl) ?_
            refine gp_iret dX9_status_120 rfl ?_
            first | (refine pX.mk (congrArg some (congrArg Value.int ?zqa)) hK1; (case zqa => (exact (q_ss_told (by assumption) (by assumption)).symm))) | (refine pX.mk (congrArg some (congrArg Value.int ?zqa)) hs; (case zqa => (exact (q_ss_d zqa3 (by assumption)).symm))) | (refine pX.mk (congrArg some (congrArg Value.int ?zqa)) hs; (case zqa => ((simp [q_ss, *]; done)))) | (refine pX.mk (congrArg some (congrArg Value.int ?zqa)) hs; (case zqa => (rw [hsw]; rfl)))
          · refine gp_ts (t := 121) dX9_status_41 (by rw [hsw]; rfl) (by decide) ?_
            refine gp_aload_n dX9_status_121 rfl ?_
            refine gp_giv dX9_status_122 mf_9_346 (by decide) (by first | rfl | assumption | (simp only [*]; done)) (by first | exact m0 | exact m1 | exact hs.1 _ _ rfl | exact rfl) ?_
            refine gp_iret dX9_status_125 rfl ?_
            first | (refine pX.mk (congrArg some (congrArg Value.int ?zqa)) hK1; (case zqa => (exact (q_ss_told (by assumption) (by assumption)).symm))) | (refine pX.mk (congrArg some (congrArg Value.int ?zqa)) hs; (case zqa => (exact (q_ss_d zqa3 (by assumption)).symm))) | (refine pX.mk (congrArg some (congrArg Value.int ?zqa)) hs; (case zqa => ((simp [q_ss, *]; done)))) | (refine pX.mk (congrArg some (congrArg Value.int ?zqa)) hs; (case zqa => (rw [hsw]; rfl)))
          · refine gp_ts (t := 126) dX9_status_41 (if_pos (sd_9 hsw)) (by decide) ?_
            refine gp_pu (st' := .int (-1) :: _) dX9_status_126 rfl ?_
            refine gp_iret dX9_status_127 rfl ?_
            first | (refine pX.mk (congrArg some (congrArg Value.int ?zqa)) hK1; (case zqa => (exact (q_ss_told (by assumption) (by assumption)).symm))) | (refine pX.mk (congrArg some (congrArg Value.int ?zqa)) hs; (case zqa => (exact (q_ss_d zqa3 (by assumption)).symm))) | (refine pX.mk (congrArg some (congrArg Value.int ?zqa)) hs; (case zqa => ((simp [q_ss, *]; done)))) | (refine pX.mk (congrArg some (congrArg Value.int ?zqa)) hs; (case zqa => (rw [hsw]; rfl)))
        · have h6' := Int32.not_lt.mp h6
          (try simp only [bi_0, bi_1, Classical.not_not, m0, m1] at h6)
          refine gp_aload_n dX9_status_32 rfl ?_
          refine gp_iload_n dX9_status_33 rfl ?_
          refine gp_pu (st' := .int (2) :: _) dX9_status_34 rfl ?_
          refine gp_pu (st' := .int _ :: _) dX9_status_35 rfl ?_
          refine gp_callX (kind := 1) (args := [.ref _, .int _]) (rest := _) dX9_status_36 (Or.inr (Or.inl ⟨rfl, rfl⟩)) mk_9_163 (by decide) me_151 rfl rfl rfl rfl rfl (mm_rc_of (by first | rfl | assumption | (simp only [*]; done))) (ml_told _ v hs) ?_
          intro K1 hK1
          refine gp_iret dX9_status_39 rfl ?_
          first | (refine pX.mk (congrArg some (congrArg Value.int ?zqa)) hK1; (case zqa => (exact (q_ss_told (by assumption) (by assumption)).symm))) | (refine pX.mk (congrArg some (congrArg Value.int ?zqa)) hs; (case zqa => (exact (q_ss_d zqa3 (by assumption)).symm))) | (refine pX.mk (congrArg some (congrArg Value.int ?zqa)) hs; (case zqa => ((simp [q_ss, *]; done)))) | (refine pX.mk (congrArg some (congrArg Value.int ?zqa)) hs; (case zqa => (rw [hsw]; rfl)))
    · have h4' := Int32.not_lt.mp h4
      (try simp only [bi_0, bi_1, Classical.not_not, m0, m1] at h4)
      obtain ⟨zqa1, zqa2⟩ := w_10 (w := w) (by rw [w_11] at h1; exact Classical.not_not.mp h1) (Int32.not_lt.mp (by assumption))
      have zqa3 : 10 < w := by rw [w_11] at h1; exact Classical.not_not.mp h1
      refine gp_aload_n dX9_status_12 rfl ?_
      refine gp_gr dX9_status_13 mf_9_28 rfl (by first | rfl | assumption | (simp only [*]; done)) (by first | rfl | assumption | (simp only [*]; done)) ?_
      refine gp_iload_n dX9_status_16 rfl ?_
      refine gp_pu (st' := .int (10) :: _) dX9_status_17 rfl ?_
      refine gp_pu (st' := .int _ :: _) dX9_status_19 rfl ?_
      refine gp_ialv dX9_status_20 rfl (by first | rfl | assumption | (simp only [*]; done)) (by first | rfl | assumption | (simp only [*]; done)) (by first | exact m0 | exact m1 | exact hs.1 _ _ rfl | exact rfl) ?_
      refine gp_iret dX9_status_21 rfl ?_
      first | (refine pX.mk (congrArg some (congrArg Value.int ?zqa)) hK1; (case zqa => (exact (q_ss_told (by assumption) (by assumption)).symm))) | (refine pX.mk (congrArg some (congrArg Value.int ?zqa)) hs; (case zqa => (exact (q_ss_d zqa3 (by assumption)).symm))) | (refine pX.mk (congrArg some (congrArg Value.int ?zqa)) hs; (case zqa => ((simp [q_ss, *]; done)))) | (refine pX.mk (congrArg some (congrArg Value.int ?zqa)) hs; (case zqa => (rw [hsw]; rfl)))

theorem eq_status (w : Int32) : eqc 99 220 [.int w] := by
  refine eqc_q0 fun I L hR => ?_
  obtain ⟨N, S, hb, hS, hL, hK, hT, hW, hE⟩ := hR
  exact ⟨_, cl_status 38 hb hT hE, fun C J hs => ml_status 38 hb.1 hs⟩
end P64
