/-! PUBLIC METHODS: says -/
section P79
variable {I C J : pI} {L : pL} {N S : Nat}

def und (κ k : Int32) : Prop := k = 0 ∨ k = κ ∨ (k = 1 ∧ κ = 3) ∨ (k = 2 ∧ κ = 5) ∨ (k = 4 ∧ κ = 6)
def undB (κ k : Int32) : Bool := decide (k = 0) || decide (k = κ) || (decide (k = 1) && decide (κ = 3)) || (decide (k = 2) && decide (κ = 5)) || (decide (k = 4) && decide (κ = 6))
theorem und_B (κ k : Int32) : undB κ k = true ↔ und κ k := by simp [undB, und, or_assoc]
theorem und_u {κ k : Int32} (h : isKd κ) (h2 : isKd k) : s_under 7 κ k = 0 ↔ ¬ und κ k := by
  rw [← und_B]
  rcases h with rfl | rfl | rfl | rfl | rfl | rfl | rfl <;> rcases h2 with rfl | rfl | rfl | rfl | rfl | rfl | rfl <;> decide
theorem isKd_k {k : Int32} (h0 : ¬ k < 0) (h6 : ¬ 6 < k) : isKd k := isKd_wi ⟨by rw [ti_lt, ti_0] at h0; omega, by rw [ti_lt, show (6 : Int32).toInt = 6 from by decide] at h6; omega⟩
def q_sy (I : pI) (c : Nat) (k : Int32) : Int32 := if k = 0 then I 112 c else if k = 1 ∨ k = 3 then k_puff (I 110 c) else if k = 2 ∨ k = 5 then q_st I c else q_ri I c
def w_sa (I : pI) (s k : Int32) : Int32 := if ¬ (0 ≤ s ∧ s < 8) ∨ k < 0 ∨ 6 < k then -1 else if I 118 s.toNatClampNeg = 1 then -2 else if I 118 s.toNatClampNeg = 0 then -3 else if undB (I 110 (I 121 s.toNatClampNeg).toNatClampNeg) k = true then 0 else -2
theorem w_sa_w (I : pI) (s k : Int32) : w_sa I s k = 0 ∨ isW (w_sa I s k) := by unfold w_sa; (repeat' split) <;> first | exact Or.inl rfl | (right; unfold isW; decide)
theorem w_sa_u {s k : Int32} (h1 : 0 ≤ s ∧ s < 8) (hk : isKd k) (h2 : I 118 s.toNatClampNeg = 2) (hu : ¬ undB (I 110 (I 121 s.toNatClampNeg).toNatClampNeg) k = true) : w_sa I s k = -2 := by
  have hk2 := wi_isKd hk
  unfold w_sa
  rw [if_neg, h2, if_neg (by decide), if_neg (by decide), if_neg hu]
  rintro (z | z | z)
  · exact z h1
  · rw [ti_lt, ti_0] at z; have := hk2.1; omega
  · rw [ti_lt, show (6 : Int32).toInt = 6 from by decide] at z; have := hk2.2; omega
theorem sh_hc (hb : bR I N S) {s : Nat} (h : rSh I s) : (0 ≤ I (76 + 2 * s) 0 ∧ I (76 + 2 * s) 0 < nI N) ↔ I 118 s = 2 := by
  have h8 := hb.n.1
  rcases h with ⟨a, b, c⟩ | ⟨a, b, c, d⟩ | ⟨a, b, c, d, e⟩
  · rw [a, b]
    constructor
    · rintro ⟨z, -⟩; exact absurd z (by decide)
    · intro z; exact absurd z (by decide)
  · rw [a, c]
    constructor
    · rintro ⟨-, z⟩
      rw [ti_lt, ti_sort b, ti_nI (by omega)] at z
      have := b.1; omega
    · intro z; exact absurd z (by decide)
  · rw [a, b]
    exact ⟨fun _ => rfl, fun _ => ⟨d, by rw [← hb.n.2.2.1]; exact e⟩⟩
/-- a shelf with a child -/
theorem sh_2 (v : vN I N S) {s : Nat} (h : rSh I s) (h2 : I 118 s = 2) : I (76 + 2 * s) 0 = I 121 s ∧ (0 ≤ I 121 s ∧ I 121 s < nI N) := by
  rcases h with h | h | ⟨a, b, c, d, e⟩
  · rw [h.1] at h2; exact absurd h2 (by decide)
  · rw [h.1] at h2; exact absurd h2 (by decide)
  · exact ⟨b, d, by rw [← v.2.2.1]; exact e⟩

set_option maxHeartbeats 400000 in
theorem ct_saysAs (d : Nat) (hb : bR I N S) {c k : Int32} (hc : 0 ≤ c ∧ c < nI N) (hk : isKd k) : cP (d + 4) 108 [.ref 0, .int c, .int k] (mm_sh, mm_R, I, L) (pX (some (.int (q_sy I c.toNatClampNeg k))) L (sc I)) := by
  have hs := sc.rf I
  have e11 : I 1 1 = nI N := hb.c11 hs
  have e13 : I 1 3 = nI S := hb.c13 hs
  refine cP.of_gP (d := d + 3) me_108 ⟨Nat.le_of_ble_eq_true rfl, rfl⟩ ?_
  show gP mm_cs0 _ _ _ _ _ _ [some (.ref _), some (.int _), some (.int _)] [] _ _
  refine gp_aload_n dX8_saysAs_0 rfl ?_
  refine gp_gr dX8_saysAs_1 mf_8_31 rfl (by first | rfl | assumption | (simp only [*]; done)) (by first | rfl | assumption | (simp only [*]; done)) ?_
  refine gp_aload_n dX8_saysAs_4 rfl ?_
  refine gp_gr dX8_saysAs_5 mf_8_10 rfl (by first | rfl | assumption | (simp only [*]; done)) (by first | rfl | assumption | (simp only [*]; done)) ?_
  refine gp_iload_n dX8_saysAs_8 rfl ?_
  refine gp_call (kind := 1) (args := [.ref _, .ref _, .int _]) (rest := _) dX8_saysAs_9 (Or.inr (Or.inl ⟨rfl, rfl⟩)) mk_8_167 (by decide) me_22 rfl rfl rfl rfl rfl (mm_rc_of (by first | rfl | assumption | (simp only [*]; done))) (ok_X4_take _ _ _ 62 1 _ isRa_62 isF_1 (by decide) (by rw [e11]; exact hc) (i_n8 hb) (i_z2 hb)) rfl ?_
  refine gp_aload_n dX8_saysAs_12 rfl ?_
  refine gp_gr dX8_saysAs_13 mf_8_31 rfl (by first | rfl | assumption | (simp only [*]; done)) (by first | rfl | assumption | (simp only [*]; done)) ?_
  refine gp_aload_n dX8_saysAs_16 rfl ?_
  refine gp_gr dX8_saysAs_17 mf_8_10 rfl (by first | rfl | assumption | (simp only [*]; done)) (by first | rfl | assumption | (simp only [*]; done)) ?_
  refine gp_callX (kind := 1) (args := [.ref _, .ref _]) (rest := _) dX8_saysAs_20 (Or.inr (Or.inl ⟨rfl, rfl⟩)) mk_8_171 (by decide) me_23 rfl rfl rfl rfl rfl (mm_rc_of (by first | rfl | assumption | (simp only [*]; done))) (ct_begin _ _ hb hs hc) ?_
  intro K1 hK1
  obtain ⟨g1, g2, g3, g4, g5, g6, g7, g8, g9, g10, g11, g12⟩ := hK1
  refine gp_iload_n dX8_saysAs_23 rfl ?_
  rcases hk with hsw | hsw | hsw | hsw | hsw | hsw | hsw
  · refine gp_ts (t := 64) dX8_saysAs_24 (by rw [hsw]; rfl) (by decide) ?_
    refine gp_aload_n dX8_saysAs_64 rfl ?_
    refine gp_gr dX8_saysAs_65 mf_8_31 rfl (by first | rfl | assumption | (simp only [*]; done)) (by first | rfl | assumption | (simp only [*]; done)) ?_
    refine gp_gr dX8_saysAs_68 mf_8_175 rfl (by first | rfl | assumption | (simp only [*]; done)) (by first | rfl | assumption | (simp only [*]; done)) ?_
    refine gp_giv dX8_saysAs_71 mf_8_182 (by decide) (by first | rfl | assumption | (simp only [*]; done)) (by first | exact g2 _ (by decide) | exact g6 | exact g7 | exact g8 | exact rfl) ?_
    refine gp_iret dX8_saysAs_74 rfl ?_
    (refine pX.mk (congrArg some (congrArg Value.int ?zqa)) g1; (case zqa => (simp [q_sy, hsw])))
  · refine gp_ts (t := 75) dX8_saysAs_24 (by rw [hsw]; rfl) (by decide) ?_
    refine gp_aload_n dX8_saysAs_75 rfl ?_
    refine gp_gr dX8_saysAs_76 mf_8_31 rfl (by first | rfl | assumption | (simp only [*]; done)) (by first | rfl | assumption | (simp only [*]; done)) ?_
    refine gp_giv dX8_saysAs_79 mf_8_194 (by decide) (by first | rfl | assumption | (simp only [*]; done)) (by first | exact g2 _ (by decide) | exact g6 | exact g7 | exact g8 | exact rfl) ?_
    refine gp_iret dX8_saysAs_82 rfl ?_
    (refine pX.mk (congrArg some (congrArg Value.int ?zqa)) g1; (case zqa => (simp [q_sy, hsw])))
  · refine gp_ts (t := 83) dX8_saysAs_24 (by rw [hsw]; rfl) (by decide) ?_
    refine gp_aload_n dX8_saysAs_83 rfl ?_
    refine gp_gr dX8_saysAs_84 mf_8_31 rfl (by first | rfl | assumption | (simp only [*]; done)) (by first | rfl | assumption | (simp only [*]; done)) ?_
    refine gp_giv dX8_saysAs_87 mf_8_191 (by decide) (by first | rfl | assumption | (simp only [*]; done)) (by first | exact g2 _ (by decide) | exact g6 | exact g7 | exact g8 | exact rfl) ?_
    refine gp_iret dX8_saysAs_90 rfl ?_
    (refine pX.mk (congrArg some (congrArg Value.int ?zqa)) g1; (case zqa => (simp [q_sy, hsw])))
  · refine gp_ts (t := 75) dX8_saysAs_24 (by rw [hsw]; rfl) (by decide) ?_
    refine gp_aload_n dX8_saysAs_75 rfl ?_
    refine gp_gr dX8_saysAs_76 mf_8_31 rfl (by first | rfl | assumption | (simp only [*]; done)) (by first | rfl | assumption | (simp only [*]; done)) ?_
    refine gp_giv dX8_saysAs_79 mf_8_194 (by decide) (by first | rfl | assumption | (simp only [*]; done)) (by first | exact g2 _ (by decide) | exact g6 | exact g7 | exact g8 | exact rfl) ?_
    refine gp_iret dX8_saysAs_82 rfl ?_
    (refine pX.mk (congrArg some (congrArg Value.int ?zqa)) g1; (case zqa => (simp [q_sy, hsw])))
  · refine gp_ts (t := 91) dX8_saysAs_24 (by rw [hsw]; rfl) (by decide) ?_
    refine gp_aload_n dX8_saysAs_91 rfl ?_
    refine gp_gr dX8_saysAs_92 mf_8_31 rfl (by first | rfl | assumption | (simp only [*]; done)) (by first | rfl | assumption | (simp only [*]; done)) ?_
    refine gp_giv dX8_saysAs_95 mf_8_197 (by decide) (by first | rfl | assumption | (simp only [*]; done)) (by first | exact g2 _ (by decide) | exact g6 | exact g7 | exact g8 | exact rfl) ?_
    refine gp_iret dX8_saysAs_98 rfl ?_
    (refine pX.mk (congrArg some (congrArg Value.int ?zqa)) g1; (case zqa => (simp [q_sy, hsw])))
  · refine gp_ts (t := 83) dX8_saysAs_24 (by rw [hsw]; rfl) (by decide) ?_
    refine gp_aload_n dX8_saysAs_83 rfl ?_
    refine gp_gr dX8_saysAs_84 mf_8_31 rfl (by first | rfl | assumption | (simp only [*]; done)) (by first | rfl | assumption | (simp only [*]; done)) ?_
    refine gp_giv dX8_saysAs_87 mf_8_191 (by decide) (by first | rfl | assumption | (simp only [*]; done)) (by first | exact g2 _ (by decide) | exact g6 | exact g7 | exact g8 | exact rfl) ?_
    refine gp_iret dX8_saysAs_90 rfl ?_
    (refine pX.mk (congrArg some (congrArg Value.int ?zqa)) g1; (case zqa => (simp [q_sy, hsw])))
  · refine gp_ts (t := 91) dX8_saysAs_24 (by rw [hsw]; rfl) (by decide) ?_
    refine gp_aload_n dX8_saysAs_91 rfl ?_
    refine gp_gr dX8_saysAs_92 mf_8_31 rfl (by first | rfl | assumption | (simp only [*]; done)) (by first | rfl | assumption | (simp only [*]; done)) ?_
    refine gp_giv dX8_saysAs_95 mf_8_197 (by decide) (by first | rfl | assumption | (simp only [*]; done)) (by first | exact g2 _ (by decide) | exact g6 | exact g7 | exact g8 | exact rfl) ?_
    refine gp_iret dX8_saysAs_98 rfl ?_
    (refine pX.mk (congrArg some (congrArg Value.int ?zqa)) g1; (case zqa => (simp [q_sy, hsw])))

set_option maxHeartbeats 400000 in
theorem cl_says (d : Nat) (hb : bR I N S) (hS : ∀ s, s < 8 → rSh I s) {s k : Int32} : cP (d + 5) 66 [.ref 0, .int s, .int k] (mm_sh, mm_R, I, L) (pX (some (.int (vq (w_sa I s k) (q_sy I (I 121 s.toNatClampNeg).toNatClampNeg k)))) L (sc (rI I (w_sa I s k)))) := by
  have hs := sc.rf I
  have e11 : I 1 1 = nI N := hb.c11 hs
  have e13 : I 1 3 = nI S := hb.c13 hs
  refine cP.of_gP (d := d + 4) me_66 ⟨Nat.le_of_ble_eq_true rfl, rfl⟩ ?_
  show gP mm_cs0 _ _ _ _ _ _ [some (.ref _), some (.int _), some (.int _), none] [] _ _
  refine gp_iload_n dX8_says_0 rfl ?_
  refine gp_call (kind := 0) (args := [.int _]) (rest := _) dX8_says_1 (Or.inl ⟨rfl, rfl⟩) mk_8_75 (by decide) me_101 rfl rfl rfl rfl rfl rfl (ok_X8_isShelf _ _ _ _) rfl ?_
  refine gp_ifc (t := 14) dX8_says_4 (by decide) c1_eq (fun h1 => ?_) (fun h1 => ?_)
  · ((try simp only [bi_0, Classical.not_not, e11, kd7] at h1); (try simp only [zqrw, zqhc] at h1))
    refine gp_aload_n dX8_says_14 rfl ?_
    refine gp_pu (st' := .int (-1) :: _) dX8_says_15 rfl ?_
    refine gp_call (kind := 1) (args := [.ref _, .int _]) (rest := _) dX8_says_16 (Or.inr (Or.inl ⟨rfl, rfl⟩)) mk_8_79 (by decide) me_100 rfl rfl rfl rfl rfl (mm_rc_of (by first | rfl | assumption | (simp only [*]; done))) (ok_X8_refuse _ _ _ _) rfl ?_
    refine gp_iret dX8_says_19 rfl ?_
    (refine cNo ?zqa ?zqc; (case zqa => (first | ((simp [w_sa, *]; done)) | (exfalso; first | contradiction | (simp_all; done)))); (case zqc => (unfold isW; decide)))
  · ((try simp only [bi_0, Classical.not_not, e11, kd7] at h1); (try simp only [zqrw, zqhc] at h1))
    refine gp_iload_n dX8_says_7 rfl ?_
    refine gp_call (kind := 0) (args := [.int _]) (rest := _) dX8_says_8 (Or.inl ⟨rfl, rfl⟩) mk_8_135 (by decide) me_102 rfl rfl rfl rfl rfl rfl (ok_X8_isKind _ _ _ _) rfl ?_
    refine gp_ifc (t := 20) dX8_says_11 (by decide) c1_ne (fun h2 => ?_) (fun h2 => ?_)
    · ((try simp only [bi_0, Classical.not_not, e11, kd7] at h2); (try simp only [zqrw, zqhc] at h2))
      obtain ⟨zqs1, zqs2, zqs3, zqs4, zqs5⟩ := sh_s (s := s) (by assumption)
      have zqsh := hS _ zqs5
      have zqrw := sh_rw hb zqsh
      have zqhc := sh_hc hb zqsh
      have zqkk : isKd k := isKd_k (fun z => (by assumption : ¬ (k < 0 ∨ 6 < k)) (Or.inl z)) (fun z => (by assumption : ¬ (k < 0 ∨ 6 < k)) (Or.inr z))
      refine gp_aload_n dX8_says_20 rfl ?_
      refine gp_gr dX8_says_21 mf_8_24 rfl (by first | rfl | assumption | (simp only [*]; done)) (by first | rfl | assumption | (simp only [*]; done)) ?_
      refine gp_iload_n dX8_says_24 rfl ?_
      refine gp_aal dX8_says_25 (by first | rfl | assumption | (simp only [*]; done)) (by decide) (by first | rfl | assumption | (simp only [*]; done)) (by first | rfl | assumption | (simp only [*]; done)) ?_
      refine gp_astore_n (ls' := [some (.ref _), some (.int _), some (.int _), some (.ref _)]) dX8_says_26 rfl (Nat.le_of_ble_eq_true rfl) ?_
      refine gp_aload_n dX8_says_27 rfl ?_
      refine gp_call (kind := 1) (args := [.ref _]) (rest := _) dX8_says_28 (Or.inr (Or.inl ⟨rfl, rfl⟩)) mk_8_105 (by decide) me_49 rfl rfl rfl rfl rfl (mm_rc_of (by first | rfl | assumption | (simp only [*]; done))) (ok_X7_hasRow _ _ _ _ zqs4) rfl ?_
      refine gp_ifc (t := 41) dX8_says_31 (by decide) c1_eq (fun h3 => ?_) (fun h3 => ?_)
      · ((try simp only [bi_0, Classical.not_not, e11, kd7] at h3); (try simp only [zqrw, zqhc] at h3))
        refine gp_aload_n dX8_says_41 rfl ?_
        refine gp_gr dX8_says_42 mf_8_10 rfl (by first | rfl | assumption | (simp only [*]; done)) (by first | rfl | assumption | (simp only [*]; done)) ?_
        refine gp_aload_n dX8_says_45 rfl ?_
        refine gp_giv dX8_says_46 mf_8_132 (by decide) (by first | rfl | assumption | (simp only [*]; done)) (by first | exact zqh1 | exact zqc4 _ (by decide) | exact rfl) ?_
        refine gp_call (kind := 1) (args := [.ref _, .int _]) (rest := _) dX8_says_49 (Or.inr (Or.inl ⟨rfl, rfl⟩)) mk_8_126 (by decide) me_3 rfl rfl rfl rfl rfl (mm_rc_of (by first | rfl | assumption | (simp only [*]; done))) (ok_X1_hasChild _ _ _ _ rfl _) rfl ?_
        refine gp_ifc (t := 62) dX8_says_52 (by decide) c1_ne (fun h4 => ?_) (fun h4 => ?_)
        · ((try simp only [bi_0, Classical.not_not, e11, kd7] at h4); (try simp only [zqrw, zqhc] at h4))
          obtain ⟨zqh1, zqh2⟩ := sh_2 hb.1 zqsh (by assumption)
          obtain ⟨zqc1, zqc2, zqc3, zqc4⟩ := hb.cc hs (c := I 121 s.toNatClampNeg) zqh2
          have zqkd : isKd (I 110 (I 121 s.toNatClampNeg).toNatClampNeg) := isKd_wi (hb.k (hb.cl zqh2).2.1).1
          have zqu := und_u zqkd zqkk
          refine gp_aload_n dX8_says_62 rfl ?_
          refine gp_gr dX8_says_63 mf_8_10 rfl (by first | rfl | assumption | (simp only [*]; done)) (by first | rfl | assumption | (simp only [*]; done)) ?_
          refine gp_gr dX8_says_66 mf_8_138 rfl (by first | rfl | assumption | (simp only [*]; done)) (by first | rfl | assumption | (simp only [*]; done)) ?_
          refine gp_aload_n dX8_says_69 rfl ?_
          refine gp_giv dX8_says_70 mf_8_132 (by decide) (by first | rfl | assumption | (simp only [*]; done)) (by first | exact zqh1 | exact zqc4 _ (by decide) | exact rfl) ?_
          refine gp_aal dX8_says_73 (by first | rfl | assumption | (simp only [*]; done)) (by decide) (by first | rfl | assumption | (simp only [*]; done)) (by first | rfl | assumption | (simp only [*]; done)) ?_
          refine gp_giv dX8_says_74 mf_8_142 (by decide) (by first | rfl | assumption | (simp only [*]; done)) (by first | exact zqh1 | exact zqc4 _ (by decide) | exact rfl) ?_
          refine gp_iload_n dX8_says_77 rfl ?_
          refine gp_call (kind := 0) (args := [.int _, .int _]) (rest := _) dX8_says_78 (Or.inl ⟨rfl, rfl⟩) mk_8_147 (by decide) me_104 rfl rfl rfl rfl rfl rfl (ok_X8_isUnder _ _ _ _ _) rfl ?_
          refine gp_ifc (t := 91) dX8_says_81 (by decide) c1_ne (fun h5 => ?_) (fun h5 => ?_)
          · ((try simp only [bi_0, Classical.not_not, e11, kd7] at h5); (try simp only [zqrw, zqhc] at h5))
            have zqut : undB (I 110 (I 121 s.toNatClampNeg).toNatClampNeg) k = true := by rw [und_B]; exact Classical.byContradiction fun z => (by assumption : ¬ s_under 7 (I 110 (I 121 s.toNatClampNeg).toNatClampNeg) k = 0) (zqu.mpr z)
            refine gp_aload_n dX8_says_91 rfl ?_
            refine gp_aload_n dX8_says_92 rfl ?_
            refine gp_giv dX8_says_93 mf_8_132 (by decide) (by first | rfl | assumption | (simp only [*]; done)) (by first | exact zqh1 | exact zqc4 _ (by decide) | exact rfl) ?_
            refine gp_iload_n dX8_says_96 rfl ?_
            refine gp_callX (kind := 1) (args := [.ref _, .int _, .int _]) (rest := _) dX8_says_97 (Or.inr (Or.inl ⟨rfl, rfl⟩)) mk_8_150 (by decide) me_108 rfl rfl rfl rfl rfl (mm_rc_of (by first | rfl | assumption | (simp only [*]; done))) (ct_saysAs _ hb zqh2 zqkk) ?_
            intro K1 hK1
            refine gp_iret dX8_says_100 rfl ?_
            first | (refine cOk ?zqa ?zqb hK1; (case zqa => (first | ((simp [w_sa, *]; done)) | (exfalso; first | contradiction | (simp_all; done)))); (case zqb => (exact rfl)))
          · ((try simp only [bi_0, Classical.not_not, e11, kd7] at h5); (try simp only [zqrw, zqhc] at h5))
            have zquf : ¬ undB (I 110 (I 121 s.toNatClampNeg).toNatClampNeg) k = true := by rw [und_B]; exact zqu.mp (by assumption)
            refine gp_aload_n dX8_says_84 rfl ?_
            refine gp_pu (st' := .int (-2) :: _) dX8_says_85 rfl ?_
            refine gp_call (kind := 1) (args := [.ref _, .int _]) (rest := _) dX8_says_87 (Or.inr (Or.inl ⟨rfl, rfl⟩)) mk_8_79 (by decide) me_100 rfl rfl rfl rfl rfl (mm_rc_of (by first | rfl | assumption | (simp only [*]; done))) (ok_X8_refuse _ _ _ _) rfl ?_
            refine gp_iret dX8_says_90 rfl ?_
            (refine cNo ?zqa ?zqc; (case zqa => (first | ((simp [w_sa, *]; done)) | (exfalso; first | contradiction | (simp_all; done)))); (case zqc => (unfold isW; decide)))
        · ((try simp only [bi_0, Classical.not_not, e11, kd7] at h4); (try simp only [zqrw, zqhc] at h4))
          have zq30 : I 118 s.toNatClampNeg = 0 := by have := sh_3 zqsh; simp_all
          refine gp_aload_n dX8_says_55 rfl ?_
          refine gp_pu (st' := .int (-3) :: _) dX8_says_56 rfl ?_
          refine gp_call (kind := 1) (args := [.ref _, .int _]) (rest := _) dX8_says_58 (Or.inr (Or.inl ⟨rfl, rfl⟩)) mk_8_79 (by decide) me_100 rfl rfl rfl rfl rfl (mm_rc_of (by first | rfl | assumption | (simp only [*]; done))) (ok_X8_refuse _ _ _ _) rfl ?_
          refine gp_iret dX8_says_61 rfl ?_
          (refine cNo ?zqa ?zqc; (case zqa => (first | ((simp [w_sa, *]; done)) | (exfalso; first | contradiction | (simp_all; done)))); (case zqc => (unfold isW; decide)))
      · ((try simp only [bi_0, Classical.not_not, e11, kd7] at h3); (try simp only [zqrw, zqhc] at h3))
        refine gp_aload_n dX8_says_34 rfl ?_
        refine gp_pu (st' := .int (-2) :: _) dX8_says_35 rfl ?_
        refine gp_call (kind := 1) (args := [.ref _, .int _]) (rest := _) dX8_says_37 (Or.inr (Or.inl ⟨rfl, rfl⟩)) mk_8_79 (by decide) me_100 rfl rfl rfl rfl rfl (mm_rc_of (by first | rfl | assumption | (simp only [*]; done))) (ok_X8_refuse _ _ _ _) rfl ?_
        refine gp_iret dX8_says_40 rfl ?_
        (refine cNo ?zqa ?zqc; (case zqa => (first | ((simp [w_sa, *]; done)) | (exfalso; first | contradiction | (simp_all; done)))); (case zqc => (unfold isW; decide)))
    · ((try simp only [bi_0, Classical.not_not, e11, kd7] at h2); (try simp only [zqrw, zqhc] at h2))
      refine gp_aload_n dX8_says_14 rfl ?_
      refine gp_pu (st' := .int (-1) :: _) dX8_says_15 rfl ?_
      refine gp_call (kind := 1) (args := [.ref _, .int _]) (rest := _) dX8_says_16 (Or.inr (Or.inl ⟨rfl, rfl⟩)) mk_8_79 (by decide) me_100 rfl rfl rfl rfl rfl (mm_rc_of (by first | rfl | assumption | (simp only [*]; done))) (ok_X8_refuse _ _ _ _) rfl ?_
      refine gp_iret dX8_says_19 rfl ?_
      (refine cNo ?zqa ?zqc; (case zqa => (first | ((simp [w_sa, *]; done)) | (exfalso; first | contradiction | (simp_all; done)))); (case zqc => (unfold isW; decide)))

set_option maxHeartbeats 400000 in
theorem en_msays (d : Nat) (v : vN I N S) (hs : mR I C J) {s c k : Int32} (hc : 0 ≤ c ∧ c < nI N) (hk : isKd k) (v4 v5 : Option Value) : gP mm_cs0 (d + 4) 9 false (some .int) cX9_says 135 [some (.ref 108), some (.int s), some (.int k), some (.int c), v4, v5] [] (mm_sh, mm_R, J, L) (pX (some (.int (q_sy I c.toNatClampNeg k))) L (mR I C)) := by
  have hc8 := v.in8 hc
  refine gp_aload_n dX9_says_135 rfl ?_
  refine gp_iload_n dX9_says_136 rfl ?_
  refine gp_callX (kind := 1) (args := [.ref _, .int _]) (rest := _) dX9_says_137 (Or.inr (Or.inl ⟨rfl, rfl⟩)) mk_9_134 (by decide) me_166 rfl rfl rfl rfl rfl (mm_rc_of (by first | rfl | assumption | (simp only [*]; done))) (mt_puts _ _ v hs hc) ?_
  intro K1 hK1
  obtain ⟨g1, g2, g3⟩ := hK1
  obtain ⟨p1, p2, p3⟩ := hop_st g2
  have kd : isKd (K1 108 35) := by rw [g2.1]; exact isKd_wi (v.k (v.cl hc).2.1).1
  refine gp_iload_n dX9_says_140 rfl ?_
  rcases hk with hsw | hsw | hsw | hsw | hsw | hsw | hsw
  · refine gp_ts (t := 180) dX9_says_141 (by rw [hsw]; rfl) (by decide) ?_
    refine gp_aload_n dX9_says_180 rfl ?_
    refine gp_gr dX9_says_181 mf_9_38 rfl (by first | rfl | assumption | (simp only [*]; done)) (by first | rfl | assumption | (simp only [*]; done)) ?_
    refine gp_iload_n dX9_says_184 rfl ?_
    refine gp_ialv dX9_says_185 rfl (by first | rfl | assumption | (simp only [*]; done)) (by first | rfl | assumption | (simp only [*]; done)) (by first | exact g1.1 _ _ rfl | exact rfl) ?_
    refine gp_iret dX9_says_186 rfl ?_
    (refine pX.mk (congrArg some (congrArg Value.int ?zqa)) g1; (case zqa => (simp [q_sy, hsw])))
  · refine gp_ts (t := 187) dX9_says_141 (by rw [hsw]; rfl) (by decide) ?_
    refine gp_aload_n dX9_says_187 rfl ?_
    refine gp_call (kind := 1) (args := [.ref _]) (rest := _) dX9_says_188 (Or.inr (Or.inl ⟨rfl, rfl⟩)) mk_9_138 (by decide) me_170 rfl rfl rfl rfl rfl (mm_rc_of (by first | rfl | assumption | (simp only [*]; done))) (ok_X9_puff _ _ _ kd) rfl ?_
    refine gp_iret dX9_says_191 rfl ?_
    (refine pX.mk (congrArg some (congrArg Value.int ?zqa)) g1; (case zqa => (simp [q_sy, hsw, p2])))
  · refine gp_ts (t := 192) dX9_says_141 (by rw [hsw]; rfl) (by decide) ?_
    refine gp_aload_n dX9_says_192 rfl ?_
    refine gp_call (kind := 1) (args := [.ref _]) (rest := _) dX9_says_193 (Or.inr (Or.inl ⟨rfl, rfl⟩)) mk_9_142 (by decide) me_169 rfl rfl rfl rfl rfl (mm_rc_of (by first | rfl | assumption | (simp only [*]; done))) (ok_X9_stride _ _ _ kd) rfl ?_
    refine gp_iret dX9_says_196 rfl ?_
    (refine pX.mk (congrArg some (congrArg Value.int ?zqa)) g1; (case zqa => (simp [q_sy, q_st, hsw, p1])))
  · refine gp_ts (t := 187) dX9_says_141 (by rw [hsw]; rfl) (by decide) ?_
    refine gp_aload_n dX9_says_187 rfl ?_
    refine gp_call (kind := 1) (args := [.ref _]) (rest := _) dX9_says_188 (Or.inr (Or.inl ⟨rfl, rfl⟩)) mk_9_138 (by decide) me_170 rfl rfl rfl rfl rfl (mm_rc_of (by first | rfl | assumption | (simp only [*]; done))) (ok_X9_puff _ _ _ kd) rfl ?_
    refine gp_iret dX9_says_191 rfl ?_
    (refine pX.mk (congrArg some (congrArg Value.int ?zqa)) g1; (case zqa => (simp [q_sy, hsw, p2])))
  · refine gp_ts (t := 197) dX9_says_141 (by rw [hsw]; rfl) (by decide) ?_
    refine gp_aload_n dX9_says_197 rfl ?_
    refine gp_call (kind := 1) (args := [.ref _]) (rest := _) dX9_says_198 (Or.inr (Or.inl ⟨rfl, rfl⟩)) mk_9_145 (by decide) me_171 rfl rfl rfl rfl rfl (mm_rc_of (by first | rfl | assumption | (simp only [*]; done))) (ok_X9_risk _ _ _ kd) rfl ?_
    refine gp_iret dX9_says_201 rfl ?_
    (refine pX.mk (congrArg some (congrArg Value.int ?zqa)) g1; (case zqa => (simp [q_sy, q_ri, hsw, p3])))
  · refine gp_ts (t := 192) dX9_says_141 (by rw [hsw]; rfl) (by decide) ?_
    refine gp_aload_n dX9_says_192 rfl ?_
    refine gp_call (kind := 1) (args := [.ref _]) (rest := _) dX9_says_193 (Or.inr (Or.inl ⟨rfl, rfl⟩)) mk_9_142 (by decide) me_169 rfl rfl rfl rfl rfl (mm_rc_of (by first | rfl | assumption | (simp only [*]; done))) (ok_X9_stride _ _ _ kd) rfl ?_
    refine gp_iret dX9_says_196 rfl ?_
    (refine pX.mk (congrArg some (congrArg Value.int ?zqa)) g1; (case zqa => (simp [q_sy, q_st, hsw, p1])))
  · refine gp_ts (t := 197) dX9_says_141 (by rw [hsw]; rfl) (by decide) ?_
    refine gp_aload_n dX9_says_197 rfl ?_
    refine gp_call (kind := 1) (args := [.ref _]) (rest := _) dX9_says_198 (Or.inr (Or.inl ⟨rfl, rfl⟩)) mk_9_145 (by decide) me_171 rfl rfl rfl rfl rfl (mm_rc_of (by first | rfl | assumption | (simp only [*]; done))) (ok_X9_risk _ _ _ kd) rfl ?_
    refine gp_iret dX9_says_201 rfl ?_
    (refine pX.mk (congrArg some (congrArg Value.int ?zqa)) g1; (case zqa => (simp [q_sy, q_ri, hsw, p3])))

set_option maxHeartbeats 400000 in
theorem ml_says (d : Nat) (v : vN I N S) (hs : mR I C J) (hS : ∀ s, s < 8 → rSh I s) {s k : Int32} : cP (d + 5) 139 [.ref 108, .int s, .int k] (mm_sh, mm_R, J, L) (pX (some (.int (vq (w_sa I s k) (q_sy I (I 121 s.toNatClampNeg).toNatClampNeg k)))) L (mR (rM I (w_sa I s k)) C)) := by
  have m0 : J 108 0 = nI N := (hs.r (by decide)).trans v.2.2.1
  have m1 : J 108 1 = nI S := (hs.r (by decide)).trans v.2.2.2.1
  refine cP.of_gP (d := d + 4) me_139 ⟨Nat.le_of_ble_eq_true rfl, rfl⟩ ?_
  show gP mm_cs0 _ _ _ _ _ _ [some (.ref _), some (.int _), some (.int _), none, none, none] [] _ _
  refine gp_aload_n dX9_says_0 rfl ?_
  refine gp_iload_n dX9_says_1 rfl ?_
  refine gp_call (kind := 1) (args := [.ref _, .int _]) (rest := _) dX9_says_2 (Or.inr (Or.inl ⟨rfl, rfl⟩)) mk_9_123 (by decide) me_129 rfl rfl rfl rfl rfl (mm_rc_of (by first | rfl | assumption | (simp only [*]; done))) (ok_X9_isShelf _ _ _ _) rfl ?_
  refine gp_ifc (t := 18) dX9_says_5 (by decide) c1_eq (fun h1 => ?_) (fun h1 => ?_)
  · (try simp only [bi_0, Classical.not_not] at h1)
    refine gp_aload_n dX9_says_18 rfl ?_
    refine gp_pu (st' := .int (-1) :: _) dX9_says_19 rfl ?_
    refine gp_call (kind := 1) (args := [.ref _, .int _]) (rest := _) dX9_says_20 (Or.inr (Or.inl ⟨rfl, rfl⟩)) mk_9_127 (by decide) me_127 rfl rfl rfl rfl rfl (mm_rc_of (by first | rfl | assumption | (simp only [*]; done))) (ok_X9_no _ _ _ _ (by decide)) rfl ?_
    refine gp_iret dX9_says_23 rfl ?_
    first | (refine mNo ?zqa ?zqc hs; (case zqa => (first | exact w_sa_u h1 zqkk zq2 zquf | ((simp [w_sa, *]; done)) | (exfalso; first | contradiction | (simp_all; done)))); (case zqc => (unfold isW; decide)))
  · (try simp only [bi_0, Classical.not_not] at h1)
    refine gp_iload_n dX9_says_8 rfl ?_
    refine gp_ifc (t := 18) dX9_says_9 (by decide) c1_lt (fun h2 => ?_) (fun h2 => ?_)
    · have h2' := Int32.not_le.mpr h2
      (try simp only [bi_0, Classical.not_not] at h2)
      refine gp_aload_n dX9_says_18 rfl ?_
      refine gp_pu (st' := .int (-1) :: _) dX9_says_19 rfl ?_
      refine gp_call (kind := 1) (args := [.ref _, .int _]) (rest := _) dX9_says_20 (Or.inr (Or.inl ⟨rfl, rfl⟩)) mk_9_127 (by decide) me_127 rfl rfl rfl rfl rfl (mm_rc_of (by first | rfl | assumption | (simp only [*]; done))) (ok_X9_no _ _ _ _ (by decide)) rfl ?_
      refine gp_iret dX9_says_23 rfl ?_
      first | (refine mNo ?zqa ?zqc hs; (case zqa => (first | exact w_sa_u h1 zqkk zq2 zquf | ((simp [w_sa, *]; done)) | (exfalso; first | contradiction | (simp_all; done)))); (case zqc => (unfold isW; decide)))
    · have h2' := Int32.not_lt.mp h2
      (try simp only [bi_0, Classical.not_not] at h2)
      refine gp_iload_n dX9_says_12 rfl ?_
      refine gp_pu (st' := .int (6) :: _) dX9_says_13 rfl ?_
      refine gp_icc (t := 24) dX9_says_15 (by decide) c2_le (fun h3 => ?_) (fun h3 => ?_)
      · have h3' := Int32.not_lt.mpr h3
        (try simp only [bi_0, Classical.not_not] at h3)
        have zqs1 := (sh_s (s := s) (by assumption)).1
        have zqsh := hS _ (sh_s (s := s) (by assumption)).2.2.2.2
        have zqkk : isKd k := isKd_k (by assumption) (Int32.not_lt.mpr (by assumption))
        have zq6 : ¬ 6 < k := Int32.not_lt.mpr (by assumption)
        refine gp_aload_n dX9_says_24 rfl ?_
        refine gp_gr dX9_says_25 mf_9_56 rfl (by first | rfl | assumption | (simp only [*]; done)) (by first | rfl | assumption | (simp only [*]; done)) ?_
        refine gp_iload_n dX9_says_28 rfl ?_
        refine gp_ialv dX9_says_29 rfl (by first | rfl | assumption | (simp only [*]; done)) (by first | rfl | assumption | (simp only [*]; done)) (by first | exact hs.1 _ _ rfl | exact rfl) ?_
        refine gp_pu (st' := .int (1) :: _) dX9_says_30 rfl ?_
        refine gp_icc (t := 41) dX9_says_31 (by decide) c2_ne (fun h4 => ?_) (fun h4 => ?_)
        · (try simp only [bi_0, Classical.not_not] at h4)
          refine gp_aload_n dX9_says_41 rfl ?_
          refine gp_gr dX9_says_42 mf_9_56 rfl (by first | rfl | assumption | (simp only [*]; done)) (by first | rfl | assumption | (simp only [*]; done)) ?_
          refine gp_iload_n dX9_says_45 rfl ?_
          refine gp_ialv dX9_says_46 rfl (by first | rfl | assumption | (simp only [*]; done)) (by first | rfl | assumption | (simp only [*]; done)) (by first | exact hs.1 _ _ rfl | exact rfl) ?_
          refine gp_ifc (t := 57) dX9_says_47 (by decide) c1_ne (fun h5 => ?_) (fun h5 => ?_)
          · (try simp only [bi_0, Classical.not_not] at h5)
            have zq2 : I 118 s.toNatClampNeg = 2 := by have := sh_3 zqsh; simp_all
            obtain ⟨zqh1, zqh2⟩ := sh_2 v zqsh zq2
            have zqc8 := v.in8 zqh2
            refine gp_aload_n dX9_says_57 rfl ?_
            refine gp_gr dX9_says_58 mf_9_65 rfl (by first | rfl | assumption | (simp only [*]; done)) (by first | rfl | assumption | (simp only [*]; done)) ?_
            refine gp_iload_n dX9_says_61 rfl ?_
            refine gp_ialv dX9_says_62 rfl (by first | rfl | assumption | (simp only [*]; done)) (by first | rfl | assumption | (simp only [*]; done)) (by first | exact hs.1 _ _ rfl | exact rfl) ?_
            refine gp_istore_n (ls' := [some (.ref _), some (.int _), some (.int _), some (.int _), none, none]) dX9_says_63 rfl (Nat.le_of_ble_eq_true rfl) ?_
            refine gp_aload_n dX9_says_64 rfl ?_
            refine gp_gr dX9_says_65 mf_9_32 rfl (by first | rfl | assumption | (simp only [*]; done)) (by first | rfl | assumption | (simp only [*]; done)) ?_
            refine gp_iload_n dX9_says_68 rfl ?_
            refine gp_ialv dX9_says_69 rfl (by first | rfl | assumption | (simp only [*]; done)) (by first | rfl | assumption | (simp only [*]; done)) (by first | exact hs.1 _ _ rfl | exact rfl) ?_
            refine gp_istore (ls' := [some (.ref _), some (.int _), some (.int _), some (.int _), some (.int _), none]) dX9_says_70 rfl (Nat.le_of_ble_eq_true rfl) ?_
            refine gp_iload_n dX9_says_72 rfl ?_
            refine gp_pu (st' := .int (1) :: _) dX9_says_73 rfl ?_
            refine gp_icc (t := 83) dX9_says_74 (by decide) c2_ne (fun h6 => ?_) (fun h6 => ?_)
            · (try simp only [bi_0, Classical.not_not] at h6)
              refine gp_iload_n dX9_says_83 rfl ?_
              refine gp_pu (st' := .int (2) :: _) dX9_says_84 rfl ?_
              refine gp_icc (t := 94) dX9_says_85 (by decide) c2_ne (fun h7 => ?_) (fun h7 => ?_)
              · (try simp only [bi_0, Classical.not_not] at h7)
                refine gp_iload_n dX9_says_94 rfl ?_
                refine gp_pu (st' := .int (4) :: _) dX9_says_95 rfl ?_
                refine gp_icc (t := 110) dX9_says_96 (by decide) c2_ne (fun h8 => ?_) (fun h8 => ?_)
                · (try simp only [bi_0, Classical.not_not] at h8)
                  refine gp_pu (st' := .int (0) :: _) dX9_says_110 rfl ?_
                  refine gp_istore (ls' := [some (.ref _), some (.int _), some (.int _), some (.int _), some (.int _), some (.int _)]) dX9_says_111 rfl (Nat.le_of_ble_eq_true rfl) ?_
                  refine gp_iload_n dX9_says_113 rfl ?_
                  refine gp_ifc (t := 135) dX9_says_114 (by decide) c1_eq (fun h9 => ?_) (fun h9 => ?_)
                  · (try simp only [bi_0, Classical.not_not] at h9)
                    (have zqu : undB (I 110 (I 121 s.toNatClampNeg).toNatClampNeg) k = true := by rw [und_B]; unfold und; first | (simp [*]; done) | (simp_all; done)
                     have hw : w_sa I s k = 0 := by first | (simp [w_sa, *]; done) | (simp_all [w_sa]; done)
                     rw [hw]
                     exact en_msays _ v hs zqh2 zqkk _ _)
                  · (try simp only [bi_0, Classical.not_not] at h9)
                    refine gp_iload_n dX9_says_117 rfl ?_
                    refine gp_iload dX9_says_118 rfl ?_
                    refine gp_icc (t := 135) dX9_says_120 (by decide) c2_eq (fun h10 => ?_) (fun h10 => ?_)
                    · (try simp only [bi_0, Classical.not_not] at h10)
                      (have zqu : undB (I 110 (I 121 s.toNatClampNeg).toNatClampNeg) k = true := by rw [und_B]; unfold und; first | (simp [*]; done) | (simp_all; done)
                       have hw : w_sa I s k = 0 := by first | (simp [w_sa, *]; done) | (simp_all [w_sa]; done)
                       rw [hw]
                       exact en_msays _ v hs zqh2 zqkk _ _)
                    · (try simp only [bi_0, Classical.not_not] at h10)
                      refine gp_iload dX9_says_123 rfl ?_
                      refine gp_ifc (t := 135) dX9_says_125 (by decide) c1_ne (fun h11 => ?_) (fun h11 => ?_)
                      · (try simp only [bi_0, Classical.not_not] at h11)
                        (have zqu : undB (I 110 (I 121 s.toNatClampNeg).toNatClampNeg) k = true := by rw [und_B]; unfold und; first | (simp [*]; done) | (simp_all; done)
                         have hw : w_sa I s k = 0 := by first | (simp [w_sa, *]; done) | (simp_all [w_sa]; done)
                         rw [hw]
                         exact en_msays _ v hs zqh2 zqkk _ _)
                      · (try simp only [bi_0, Classical.not_not] at h11)
                        have zquf : ¬ undB (I 110 (I 121 s.toNatClampNeg).toNatClampNeg) k = true := by rw [und_B]; unfold und; first | (simp [*]; done) | (simp_all; done)
                        refine gp_aload_n dX9_says_128 rfl ?_
                        refine gp_pu (st' := .int (-2) :: _) dX9_says_129 rfl ?_
                        refine gp_call (kind := 1) (args := [.ref _, .int _]) (rest := _) dX9_says_131 (Or.inr (Or.inl ⟨rfl, rfl⟩)) mk_9_127 (by decide) me_127 rfl rfl rfl rfl rfl (mm_rc_of (by first | rfl | assumption | (simp only [*]; done))) (ok_X9_no _ _ _ _ (by decide)) rfl ?_
                        refine gp_iret dX9_says_134 rfl ?_
                        first | (refine mNo ?zqa ?zqc hs; (case zqa => (first | exact w_sa_u h1 zqkk zq2 zquf | ((simp [w_sa, *]; done)) | (exfalso; first | contradiction | (simp_all; done)))); (case zqc => (unfold isW; decide)))
                · (try simp only [bi_0, Classical.not_not] at h8)
                  refine gp_iload dX9_says_99 rfl ?_
                  refine gp_pu (st' := .int (6) :: _) dX9_says_101 rfl ?_
                  refine gp_icc (t := 110) dX9_says_103 (by decide) c2_ne (fun h12 => ?_) (fun h12 => ?_)
                  · (try simp only [bi_0, Classical.not_not] at h12)
                    refine gp_pu (st' := .int (0) :: _) dX9_says_110 rfl ?_
                    refine gp_istore (ls' := [some (.ref _), some (.int _), some (.int _), some (.int _), some (.int _), some (.int _)]) dX9_says_111 rfl (Nat.le_of_ble_eq_true rfl) ?_
                    refine gp_iload_n dX9_says_113 rfl ?_
                    refine gp_ifc (t := 135) dX9_says_114 (by decide) c1_eq (fun h13 => ?_) (fun h13 => ?_)
                    · (try simp only [bi_0, Classical.not_not] at h13)
                      (have zqu : undB (I 110 (I 121 s.toNatClampNeg).toNatClampNeg) k = true := by rw [und_B]; unfold und; first | (simp [*]; done) | (simp_all; done)
                       have hw : w_sa I s k = 0 := by first | (simp [w_sa, *]; done) | (simp_all [w_sa]; done)
                       rw [hw]
                       exact en_msays _ v hs zqh2 zqkk _ _)
                    · (try simp only [bi_0, Classical.not_not] at h13)
                      refine gp_iload_n dX9_says_117 rfl ?_
                      refine gp_iload dX9_says_118 rfl ?_
                      refine gp_icc (t := 135) dX9_says_120 (by decide) c2_eq (fun h14 => ?_) (fun h14 => ?_)
                      · (try simp only [bi_0, Classical.not_not] at h14)
                        (have zqu : undB (I 110 (I 121 s.toNatClampNeg).toNatClampNeg) k = true := by rw [und_B]; unfold und; first | (simp [*]; done) | (simp_all; done)
                         have hw : w_sa I s k = 0 := by first | (simp [w_sa, *]; done) | (simp_all [w_sa]; done)
                         rw [hw]
                         exact en_msays _ v hs zqh2 zqkk _ _)
                      · (try simp only [bi_0, Classical.not_not] at h14)
                        refine gp_iload dX9_says_123 rfl ?_
                        refine gp_ifc (t := 135) dX9_says_125 (by decide) c1_ne (fun h15 => ?_) (fun h15 => ?_)
                        · (try simp only [bi_0, Classical.not_not] at h15)
                          (have zqu : undB (I 110 (I 121 s.toNatClampNeg).toNatClampNeg) k = true := by rw [und_B]; unfold und; first | (simp [*]; done) | (simp_all; done)
                           have hw : w_sa I s k = 0 := by first | (simp [w_sa, *]; done) | (simp_all [w_sa]; done)
                           rw [hw]
                           exact en_msays _ v hs zqh2 zqkk _ _)
                        · (try simp only [bi_0, Classical.not_not] at h15)
                          have zquf : ¬ undB (I 110 (I 121 s.toNatClampNeg).toNatClampNeg) k = true := by rw [und_B]; unfold und; first | (simp [*]; done) | (simp_all; done)
                          refine gp_aload_n dX9_says_128 rfl ?_
                          refine gp_pu (st' := .int (-2) :: _) dX9_says_129 rfl ?_
                          refine gp_call (kind := 1) (args := [.ref _, .int _]) (rest := _) dX9_says_131 (Or.inr (Or.inl ⟨rfl, rfl⟩)) mk_9_127 (by decide) me_127 rfl rfl rfl rfl rfl (mm_rc_of (by first | rfl | assumption | (simp only [*]; done))) (ok_X9_no _ _ _ _ (by decide)) rfl ?_
                          refine gp_iret dX9_says_134 rfl ?_
                          first | (refine mNo ?zqa ?zqc hs; (case zqa => (first | exact w_sa_u h1 zqkk zq2 zquf | ((simp [w_sa, *]; done)) | (exfalso; first | contradiction | (simp_all; done)))); (case zqc => (unfold isW; decide)))
                  · (try simp only [bi_0, Classical.not_not] at h12)
                    refine gp_pu (st' := .int (1) :: _) dX9_says_106 rfl ?_
                    refine gp_goto (t := 111) dX9_says_107 (by decide) ?_
                    refine gp_istore (ls' := [some (.ref _), some (.int _), some (.int _), some (.int _), some (.int _), some (.int _)]) dX9_says_111 rfl (Nat.le_of_ble_eq_true rfl) ?_
                    refine gp_iload_n dX9_says_113 rfl ?_
                    refine gp_ifc (t := 135) dX9_says_114 (by decide) c1_eq (fun h16 => ?_) (fun h16 => ?_)
                    · (try simp only [bi_0, Classical.not_not] at h16)
                      (have zqu : undB (I 110 (I 121 s.toNatClampNeg).toNatClampNeg) k = true := by rw [und_B]; unfold und; first | (simp [*]; done) | (simp_all; done)
                       have hw : w_sa I s k = 0 := by first | (simp [w_sa, *]; done) | (simp_all [w_sa]; done)
                       rw [hw]
                       exact en_msays _ v hs zqh2 zqkk _ _)
                    · (try simp only [bi_0, Classical.not_not] at h16)
                      refine gp_iload_n dX9_says_117 rfl ?_
                      refine gp_iload dX9_says_118 rfl ?_
                      refine gp_icc (t := 135) dX9_says_120 (by decide) c2_eq (fun h17 => ?_) (fun h17 => ?_)
                      · (try simp only [bi_0, Classical.not_not] at h17)
                        (have zqu : undB (I 110 (I 121 s.toNatClampNeg).toNatClampNeg) k = true := by rw [und_B]; unfold und; first | (simp [*]; done) | (simp_all; done)
                         have hw : w_sa I s k = 0 := by first | (simp [w_sa, *]; done) | (simp_all [w_sa]; done)
                         rw [hw]
                         exact en_msays _ v hs zqh2 zqkk _ _)
                      · (try simp only [bi_0, Classical.not_not] at h17)
                        refine gp_iload dX9_says_123 rfl ?_
                        refine gp_ifc (t := 135) dX9_says_125 (by decide) c1_ne (fun h18 => ?_) (fun h18 => ?_)
                        · (try simp only [bi_0, Classical.not_not] at h18)
                          (have zqu : undB (I 110 (I 121 s.toNatClampNeg).toNatClampNeg) k = true := by rw [und_B]; unfold und; first | (simp [*]; done) | (simp_all; done)
                           have hw : w_sa I s k = 0 := by first | (simp [w_sa, *]; done) | (simp_all [w_sa]; done)
                           rw [hw]
                           exact en_msays _ v hs zqh2 zqkk _ _)
                        · (try simp only [bi_0, Classical.not_not] at h18)
                          have zquf : ¬ undB (I 110 (I 121 s.toNatClampNeg).toNatClampNeg) k = true := by rw [und_B]; unfold und; first | (simp [*]; done) | (simp_all; done)
                          refine gp_aload_n dX9_says_128 rfl ?_
                          refine gp_pu (st' := .int (-2) :: _) dX9_says_129 rfl ?_
                          refine gp_call (kind := 1) (args := [.ref _, .int _]) (rest := _) dX9_says_131 (Or.inr (Or.inl ⟨rfl, rfl⟩)) mk_9_127 (by decide) me_127 rfl rfl rfl rfl rfl (mm_rc_of (by first | rfl | assumption | (simp only [*]; done))) (ok_X9_no _ _ _ _ (by decide)) rfl ?_
                          refine gp_iret dX9_says_134 rfl ?_
                          first | (refine mNo ?zqa ?zqc hs; (case zqa => (first | exact w_sa_u h1 zqkk zq2 zquf | ((simp [w_sa, *]; done)) | (exfalso; first | contradiction | (simp_all; done)))); (case zqc => (unfold isW; decide)))
              · (try simp only [bi_0, Classical.not_not] at h7)
                refine gp_iload dX9_says_88 rfl ?_
                refine gp_pu (st' := .int (5) :: _) dX9_says_90 rfl ?_
                refine gp_icc (t := 106) dX9_says_91 (by decide) c2_eq (fun h19 => ?_) (fun h19 => ?_)
                · (try simp only [bi_0, Classical.not_not] at h19)
                  refine gp_pu (st' := .int (1) :: _) dX9_says_106 rfl ?_
                  refine gp_goto (t := 111) dX9_says_107 (by decide) ?_
                  refine gp_istore (ls' := [some (.ref _), some (.int _), some (.int _), some (.int _), some (.int _), some (.int _)]) dX9_says_111 rfl (Nat.le_of_ble_eq_true rfl) ?_
                  refine gp_iload_n dX9_says_113 rfl ?_
                  refine gp_ifc (t := 135) dX9_says_114 (by decide) c1_eq (fun h20 => ?_) (fun h20 => ?_)
                  · (try simp only [bi_0, Classical.not_not] at h20)
                    (have zqu : undB (I 110 (I 121 s.toNatClampNeg).toNatClampNeg) k = true := by rw [und_B]; unfold und; first | (simp [*]; done) | (simp_all; done)
                     have hw : w_sa I s k = 0 := by first | (simp [w_sa, *]; done) | (simp_all [w_sa]; done)
                     rw [hw]
                     exact en_msays _ v hs zqh2 zqkk _ _)
                  · (try simp only [bi_0, Classical.not_not] at h20)
                    refine gp_iload_n dX9_says_117 rfl ?_
                    refine gp_iload dX9_says_118 rfl ?_
                    refine gp_icc (t := 135) dX9_says_120 (by decide) c2_eq (fun h21 => ?_) (fun h21 => ?_)
                    · (try simp only [bi_0, Classical.not_not] at h21)
                      (have zqu : undB (I 110 (I 121 s.toNatClampNeg).toNatClampNeg) k = true := by rw [und_B]; unfold und; first | (simp [*]; done) | (simp_all; done)
                       have hw : w_sa I s k = 0 := by first | (simp [w_sa, *]; done) | (simp_all [w_sa]; done)
                       rw [hw]
                       exact en_msays _ v hs zqh2 zqkk _ _)
                    · (try simp only [bi_0, Classical.not_not] at h21)
                      refine gp_iload dX9_says_123 rfl ?_
                      refine gp_ifc (t := 135) dX9_says_125 (by decide) c1_ne (fun h22 => ?_) (fun h22 => ?_)
                      · (try simp only [bi_0, Classical.not_not] at h22)
                        (have zqu : undB (I 110 (I 121 s.toNatClampNeg).toNatClampNeg) k = true := by rw [und_B]; unfold und; first | (simp [*]; done) | (simp_all; done)
                         have hw : w_sa I s k = 0 := by first | (simp [w_sa, *]; done) | (simp_all [w_sa]; done)
                         rw [hw]
                         exact en_msays _ v hs zqh2 zqkk _ _)
                      · (try simp only [bi_0, Classical.not_not] at h22)
                        have zquf : ¬ undB (I 110 (I 121 s.toNatClampNeg).toNatClampNeg) k = true := by rw [und_B]; unfold und; first | (simp [*]; done) | (simp_all; done)
                        refine gp_aload_n dX9_says_128 rfl ?_
                        refine gp_pu (st' := .int (-2) :: _) dX9_says_129 rfl ?_
                        refine gp_call (kind := 1) (args := [.ref _, .int _]) (rest := _) dX9_says_131 (Or.inr (Or.inl ⟨rfl, rfl⟩)) mk_9_127 (by decide) me_127 rfl rfl rfl rfl rfl (mm_rc_of (by first | rfl | assumption | (simp only [*]; done))) (ok_X9_no _ _ _ _ (by decide)) rfl ?_
                        refine gp_iret dX9_says_134 rfl ?_
                        first | (refine mNo ?zqa ?zqc hs; (case zqa => (first | exact w_sa_u h1 zqkk zq2 zquf | ((simp [w_sa, *]; done)) | (exfalso; first | contradiction | (simp_all; done)))); (case zqc => (unfold isW; decide)))
                · (try simp only [bi_0, Classical.not_not] at h19)
                  refine gp_iload_n dX9_says_94 rfl ?_
                  refine gp_pu (st' := .int (4) :: _) dX9_says_95 rfl ?_
                  refine gp_icc (t := 110) dX9_says_96 (by decide) c2_ne (fun h23 => ?_) (fun h23 => ?_)
                  · (try simp only [bi_0, Classical.not_not] at h23)
                    refine gp_pu (st' := .int (0) :: _) dX9_says_110 rfl ?_
                    refine gp_istore (ls' := [some (.ref _), some (.int _), some (.int _), some (.int _), some (.int _), some (.int _)]) dX9_says_111 rfl (Nat.le_of_ble_eq_true rfl) ?_
                    refine gp_iload_n dX9_says_113 rfl ?_
                    refine gp_ifc (t := 135) dX9_says_114 (by decide) c1_eq (fun h24 => ?_) (fun h24 => ?_)
                    · (try simp only [bi_0, Classical.not_not] at h24)
                      (have zqu : undB (I 110 (I 121 s.toNatClampNeg).toNatClampNeg) k = true := by rw [und_B]; unfold und; first | (simp [*]; done) | (simp_all; done)
                       have hw : w_sa I s k = 0 := by first | (simp [w_sa, *]; done) | (simp_all [w_sa]; done)
                       rw [hw]
                       exact en_msays _ v hs zqh2 zqkk _ _)
                    · (try simp only [bi_0, Classical.not_not] at h24)
                      refine gp_iload_n dX9_says_117 rfl ?_
                      refine gp_iload dX9_says_118 rfl ?_
                      refine gp_icc (t := 135) dX9_says_120 (by decide) c2_eq (fun h25 => ?_) (fun h25 => ?_)
                      · (try simp only [bi_0, Classical.not_not] at h25)
                        (have zqu : undB (I 110 (I 121 s.toNatClampNeg).toNatClampNeg) k = true := by rw [und_B]; unfold und; first | (simp [*]; done) | (simp_all; done)
                         have hw : w_sa I s k = 0 := by first | (simp [w_sa, *]; done) | (simp_all [w_sa]; done)
                         rw [hw]
                         exact en_msays _ v hs zqh2 zqkk _ _)
                      · (try simp only [bi_0, Classical.not_not] at h25)
                        refine gp_iload dX9_says_123 rfl ?_
                        refine gp_ifc (t := 135) dX9_says_125 (by decide) c1_ne (fun h26 => ?_) (fun h26 => ?_)
                        · (try simp only [bi_0, Classical.not_not] at h26)
                          (have zqu : undB (I 110 (I 121 s.toNatClampNeg).toNatClampNeg) k = true := by rw [und_B]; unfold und; first | (simp [*]; done) | (simp_all; done)
                           have hw : w_sa I s k = 0 := by first | (simp [w_sa, *]; done) | (simp_all [w_sa]; done)
                           rw [hw]
                           exact en_msays _ v hs zqh2 zqkk _ _)
                        · (try simp only [bi_0, Classical.not_not] at h26)
                          have zquf : ¬ undB (I 110 (I 121 s.toNatClampNeg).toNatClampNeg) k = true := by rw [und_B]; unfold und; first | (simp [*]; done) | (simp_all; done)
                          refine gp_aload_n dX9_says_128 rfl ?_
                          refine gp_pu (st' := .int (-2) :: _) dX9_says_129 rfl ?_
                          refine gp_call (kind := 1) (args := [.ref _, .int _]) (rest := _) dX9_says_131 (Or.inr (Or.inl ⟨rfl, rfl⟩)) mk_9_127 (by decide) me_127 rfl rfl rfl rfl rfl (mm_rc_of (by first | rfl | assumption | (simp only [*]; done))) (ok_X9_no _ _ _ _ (by decide)) rfl ?_
                          refine gp_iret dX9_says_134 rfl ?_
                          first | (refine mNo ?zqa ?zqc hs; (case zqa => (first | exact w_sa_u h1 zqkk zq2 zquf | ((simp [w_sa, *]; done)) | (exfalso; first | contradiction | (simp_all; done)))); (case zqc => (unfold isW; decide)))
                  · (try simp only [bi_0, Classical.not_not] at h23)
                    refine gp_iload dX9_says_99 rfl ?_
                    refine gp_pu (st' := .int (6) :: _) dX9_says_101 rfl ?_
                    refine gp_icc (t := 110) dX9_says_103 (by decide) c2_ne (fun h27 => ?_) (fun h27 => ?_)
                    · (try simp only [bi_0, Classical.not_not] at h27)
                      refine gp_pu (st' := .int (0) :: _) dX9_says_110 rfl ?_
                      refine gp_istore (ls' := [some (.ref _), some (.int _), some (.int _), some (.int _), some (.int _), some (.int _)]) dX9_says_111 rfl (Nat.le_of_ble_eq_true rfl) ?_
                      refine gp_iload_n dX9_says_113 rfl ?_
                      refine gp_ifc (t := 135) dX9_says_114 (by decide) c1_eq (fun h28 => ?_) (fun h28 => ?_)
                      · (try simp only [bi_0, Classical.not_not] at h28)
                        (have zqu : undB (I 110 (I 121 s.toNatClampNeg).toNatClampNeg) k = true := by rw [und_B]; unfold und; first | (simp [*]; done) | (simp_all; done)
                         have hw : w_sa I s k = 0 := by first | (simp [w_sa, *]; done) | (simp_all [w_sa]; done)
                         rw [hw]
                         exact en_msays _ v hs zqh2 zqkk _ _)
                      · (try simp only [bi_0, Classical.not_not] at h28)
                        refine gp_iload_n dX9_says_117 rfl ?_
                        refine gp_iload dX9_says_118 rfl ?_
                        refine gp_icc (t := 135) dX9_says_120 (by decide) c2_eq (fun h29 => ?_) (fun h29 => ?_)
                        · (try simp only [bi_0, Classical.not_not] at h29)
                          (have zqu : undB (I 110 (I 121 s.toNatClampNeg).toNatClampNeg) k = true := by rw [und_B]; unfold und; first | (simp [*]; done) | (simp_all; done)
                           have hw : w_sa I s k = 0 := by first | (simp [w_sa, *]; done) | (simp_all [w_sa]; done)
                           rw [hw]
                           exact en_msays _ v hs zqh2 zqkk _ _)
                        · (try simp only [bi_0, Classical.not_not] at h29)
                          refine gp_iload dX9_says_123 rfl ?_
                          refine gp_ifc (t := 135) dX9_says_125 (by decide) c1_ne (fun h30 => ?_) (fun h30 => ?_)
                          · (try simp only [bi_0, Classical.not_not] at h30)
                            (have zqu : undB (I 110 (I 121 s.toNatClampNeg).toNatClampNeg) k = true := by rw [und_B]; unfold und; first | (simp [*]; done) | (simp_all; done)
                             have hw : w_sa I s k = 0 := by first | (simp [w_sa, *]; done) | (simp_all [w_sa]; done)
                             rw [hw]
                             exact en_msays _ v hs zqh2 zqkk _ _)
                          · (try simp only [bi_0, Classical.not_not] at h30)
                            have zquf : ¬ undB (I 110 (I 121 s.toNatClampNeg).toNatClampNeg) k = true := by rw [und_B]; unfold und; first | (simp [*]; done) | (simp_all; done)
                            refine gp_aload_n dX9_says_128 rfl ?_
                            refine gp_pu (st' := .int (-2) :: _) dX9_says_129 rfl ?_
                            refine gp_call (kind := 1) (args := [.ref _, .int _]) (rest := _) dX9_says_131 (Or.inr (Or.inl ⟨rfl, rfl⟩)) mk_9_127 (by decide) me_127 rfl rfl rfl rfl rfl (mm_rc_of (by first | rfl | assumption | (simp only [*]; done))) (ok_X9_no _ _ _ _ (by decide)) rfl ?_
                            refine gp_iret dX9_says_134 rfl ?_
                            first | (refine mNo ?zqa ?zqc hs; (case zqa => (first | exact w_sa_u h1 zqkk zq2 zquf | ((simp [w_sa, *]; done)) | (exfalso; first | contradiction | (simp_all; done)))); (case zqc => (unfold isW; decide)))
                    · (try simp only [bi_0, Classical.not_not] at h27)
                      refine gp_pu (st' := .int (1) :: _) dX9_says_106 rfl ?_
                      refine gp_goto (t := 111) dX9_says_107 (by decide) ?_
                      refine gp_istore (ls' := [some (.ref _), some (.int _), some (.int _), some (.int _), some (.int _), some (.int _)]) dX9_says_111 rfl (Nat.le_of_ble_eq_true rfl) ?_
                      refine gp_iload_n dX9_says_113 rfl ?_
                      refine gp_ifc (t := 135) dX9_says_114 (by decide) c1_eq (fun h31 => ?_) (fun h31 => ?_)
                      · (try simp only [bi_0, Classical.not_not] at h31)
                        (have zqu : undB (I 110 (I 121 s.toNatClampNeg).toNatClampNeg) k = true := by rw [und_B]; unfold und; first | (simp [*]; done) | (simp_all; done)
                         have hw : w_sa I s k = 0 := by first | (simp [w_sa, *]; done) | (simp_all [w_sa]; done)
                         rw [hw]
                         exact en_msays _ v hs zqh2 zqkk _ _)
                      · (try simp only [bi_0, Classical.not_not] at h31)
                        refine gp_iload_n dX9_says_117 rfl ?_
                        refine gp_iload dX9_says_118 rfl ?_
                        refine gp_icc (t := 135) dX9_says_120 (by decide) c2_eq (fun h32 => ?_) (fun h32 => ?_)
                        · (try simp only [bi_0, Classical.not_not] at h32)
                          (have zqu : undB (I 110 (I 121 s.toNatClampNeg).toNatClampNeg) k = true := by rw [und_B]; unfold und; first | (simp [*]; done) | (simp_all; done)
                           have hw : w_sa I s k = 0 := by first | (simp [w_sa, *]; done) | (simp_all [w_sa]; done)
                           rw [hw]
                           exact en_msays _ v hs zqh2 zqkk _ _)
                        · (try simp only [bi_0, Classical.not_not] at h32)
                          refine gp_iload dX9_says_123 rfl ?_
                          refine gp_ifc (t := 135) dX9_says_125 (by decide) c1_ne (fun h33 => ?_) (fun h33 => ?_)
                          · (try simp only [bi_0, Classical.not_not] at h33)
                            (have zqu : undB (I 110 (I 121 s.toNatClampNeg).toNatClampNeg) k = true := by rw [und_B]; unfold und; first | (simp [*]; done) | (simp_all; done)
                             have hw : w_sa I s k = 0 := by first | (simp [w_sa, *]; done) | (simp_all [w_sa]; done)
                             rw [hw]
                             exact en_msays _ v hs zqh2 zqkk _ _)
                          · (try simp only [bi_0, Classical.not_not] at h33)
                            have zquf : ¬ undB (I 110 (I 121 s.toNatClampNeg).toNatClampNeg) k = true := by rw [und_B]; unfold und; first | (simp [*]; done) | (simp_all; done)
                            refine gp_aload_n dX9_says_128 rfl ?_
                            refine gp_pu (st' := .int (-2) :: _) dX9_says_129 rfl ?_
                            refine gp_call (kind := 1) (args := [.ref _, .int _]) (rest := _) dX9_says_131 (Or.inr (Or.inl ⟨rfl, rfl⟩)) mk_9_127 (by decide) me_127 rfl rfl rfl rfl rfl (mm_rc_of (by first | rfl | assumption | (simp only [*]; done))) (ok_X9_no _ _ _ _ (by decide)) rfl ?_
                            refine gp_iret dX9_says_134 rfl ?_
                            first | (refine mNo ?zqa ?zqc hs; (case zqa => (first | exact w_sa_u h1 zqkk zq2 zquf | ((simp [w_sa, *]; done)) | (exfalso; first | contradiction | (simp_all; done)))); (case zqc => (unfold isW; decide)))
            · (try simp only [bi_0, Classical.not_not] at h6)
              refine gp_iload dX9_says_77 rfl ?_
              refine gp_pu (st' := .int (3) :: _) dX9_says_79 rfl ?_
              refine gp_icc (t := 106) dX9_says_80 (by decide) c2_eq (fun h34 => ?_) (fun h34 => ?_)
              · (try simp only [bi_0, Classical.not_not] at h34)
                refine gp_pu (st' := .int (1) :: _) dX9_says_106 rfl ?_
                refine gp_goto (t := 111) dX9_says_107 (by decide) ?_
                refine gp_istore (ls' := [some (.ref _), some (.int _), some (.int _), some (.int _), some (.int _), some (.int _)]) dX9_says_111 rfl (Nat.le_of_ble_eq_true rfl) ?_
                refine gp_iload_n dX9_says_113 rfl ?_
                refine gp_ifc (t := 135) dX9_says_114 (by decide) c1_eq (fun h35 => ?_) (fun h35 => ?_)
                · (try simp only [bi_0, Classical.not_not] at h35)
                  (have zqu : undB (I 110 (I 121 s.toNatClampNeg).toNatClampNeg) k = true := by rw [und_B]; unfold und; first | (simp [*]; done) | (simp_all; done)
                   have hw : w_sa I s k = 0 := by first | (simp [w_sa, *]; done) | (simp_all [w_sa]; done)
                   rw [hw]
                   exact en_msays _ v hs zqh2 zqkk _ _)
                · (try simp only [bi_0, Classical.not_not] at h35)
                  refine gp_iload_n dX9_says_117 rfl ?_
                  refine gp_iload dX9_says_118 rfl ?_
                  refine gp_icc (t := 135) dX9_says_120 (by decide) c2_eq (fun h36 => ?_) (fun h36 => ?_)
                  · (try simp only [bi_0, Classical.not_not] at h36)
                    (have zqu : undB (I 110 (I 121 s.toNatClampNeg).toNatClampNeg) k = true := by rw [und_B]; unfold und; first | (simp [*]; done) | (simp_all; done)
                     have hw : w_sa I s k = 0 := by first | (simp [w_sa, *]; done) | (simp_all [w_sa]; done)
                     rw [hw]
                     exact en_msays _ v hs zqh2 zqkk _ _)
                  · (try simp only [bi_0, Classical.not_not] at h36)
                    refine gp_iload dX9_says_123 rfl ?_
                    refine gp_ifc (t := 135) dX9_says_125 (by decide) c1_ne (fun h37 => ?_) (fun h37 => ?_)
                    · (try simp only [bi_0, Classical.not_not] at h37)
                      (have zqu : undB (I 110 (I 121 s.toNatClampNeg).toNatClampNeg) k = true := by rw [und_B]; unfold und; first | (simp [*]; done) | (simp_all; done)
                       have hw : w_sa I s k = 0 := by first | (simp [w_sa, *]; done) | (simp_all [w_sa]; done)
                       rw [hw]
                       exact en_msays _ v hs zqh2 zqkk _ _)
                    · (try simp only [bi_0, Classical.not_not] at h37)
                      have zquf : ¬ undB (I 110 (I 121 s.toNatClampNeg).toNatClampNeg) k = true := by rw [und_B]; unfold und; first | (simp [*]; done) | (simp_all; done)
                      refine gp_aload_n dX9_says_128 rfl ?_
                      refine gp_pu (st' := .int (-2) :: _) dX9_says_129 rfl ?_
                      refine gp_call (kind := 1) (args := [.ref _, .int _]) (rest := _) dX9_says_131 (Or.inr (Or.inl ⟨rfl, rfl⟩)) mk_9_127 (by decide) me_127 rfl rfl rfl rfl rfl (mm_rc_of (by first | rfl | assumption | (simp only [*]; done))) (ok_X9_no _ _ _ _ (by decide)) rfl ?_
                      refine gp_iret dX9_says_134 rfl ?_
                      first | (refine mNo ?zqa ?zqc hs; (case zqa => (first | exact w_sa_u h1 zqkk zq2 zquf | ((simp [w_sa, *]; done)) | (exfalso; first | contradiction | (simp_all; done)))); (case zqc => (unfold isW; decide)))
              · (try simp only [bi_0, Classical.not_not] at h34)
                refine gp_iload_n dX9_says_83 rfl ?_
                refine gp_pu (st' := .int (2) :: _) dX9_says_84 rfl ?_
                refine gp_icc (t := 94) dX9_says_85 (by decide) c2_ne (fun h38 => ?_) (fun h38 => ?_)
                · (try simp only [bi_0, Classical.not_not] at h38)
                  refine gp_iload_n dX9_says_94 rfl ?_
                  refine gp_pu (st' := .int (4) :: _) dX9_says_95 rfl ?_
                  refine gp_icc (t := 110) dX9_says_96 (by decide) c2_ne (fun h39 => ?_) (fun h39 => ?_)
                  · (try simp only [bi_0, Classical.not_not] at h39)
                    refine gp_pu (st' := .int (0) :: _) dX9_says_110 rfl ?_
                    refine gp_istore (ls' := [some (.ref _), some (.int _), some (.int _), some (.int _), some (.int _), some (.int _)]) dX9_says_111 rfl (Nat.le_of_ble_eq_true rfl) ?_
                    refine gp_iload_n dX9_says_113 rfl ?_
                    refine gp_ifc (t := 135) dX9_says_114 (by decide) c1_eq (fun h40 => ?_) (fun h40 => ?_)
                    · (try simp only [bi_0, Classical.not_not] at h40)
                      (have zqu : undB (I 110 (I 121 s.toNatClampNeg).toNatClampNeg) k = true := by rw [und_B]; unfold und; first | (simp [*]; done) | (simp_all; done)
                       have hw : w_sa I s k = 0 := by first | (simp [w_sa, *]; done) | (simp_all [w_sa]; done)
                       rw [hw]
                       exact en_msays _ v hs zqh2 zqkk _ _)
                    · (try simp only [bi_0, Classical.not_not] at h40)
                      refine gp_iload_n dX9_says_117 rfl ?_
                      refine gp_iload dX9_says_118 rfl ?_
                      refine gp_icc (t := 135) dX9_says_120 (by decide) c2_eq (fun h41 => ?_) (fun h41 => ?_)
                      · (try simp only [bi_0, Classical.not_not] at h41)
                        (have zqu : undB (I 110 (I 121 s.toNatClampNeg).toNatClampNeg) k = true := by rw [und_B]; unfold und; first | (simp [*]; done) | (simp_all; done)
                         have hw : w_sa I s k = 0 := by first | (simp [w_sa, *]; done) | (simp_all [w_sa]; done)
                         rw [hw]
                         exact en_msays _ v hs zqh2 zqkk _ _)
                      · (try simp only [bi_0, Classical.not_not] at h41)
                        refine gp_iload dX9_says_123 rfl ?_
                        refine gp_ifc (t := 135) dX9_says_125 (by decide) c1_ne (fun h42 => ?_) (fun h42 => ?_)
                        · (try simp only [bi_0, Classical.not_not] at h42)
                          (have zqu : undB (I 110 (I 121 s.toNatClampNeg).toNatClampNeg) k = true := by rw [und_B]; unfold und; first | (simp [*]; done) | (simp_all; done)
                           have hw : w_sa I s k = 0 := by first | (simp [w_sa, *]; done) | (simp_all [w_sa]; done)
                           rw [hw]
                           exact en_msays _ v hs zqh2 zqkk _ _)
                        · (try simp only [bi_0, Classical.not_not] at h42)
                          have zquf : ¬ undB (I 110 (I 121 s.toNatClampNeg).toNatClampNeg) k = true := by rw [und_B]; unfold und; first | (simp [*]; done) | (simp_all; done)
                          refine gp_aload_n dX9_says_128 rfl ?_
                          refine gp_pu (st' := .int (-2) :: _) dX9_says_129 rfl ?_
                          refine gp_call (kind := 1) (args := [.ref _, .int _]) (rest := _) dX9_says_131 (Or.inr (Or.inl ⟨rfl, rfl⟩)) mk_9_127 (by decide) me_127 rfl rfl rfl rfl rfl (mm_rc_of (by first | rfl | assumption | (simp only [*]; done))) (ok_X9_no _ _ _ _ (by decide)) rfl ?_
                          refine gp_iret dX9_says_134 rfl ?_
                          first | (refine mNo ?zqa ?zqc hs; (case zqa => (first | exact w_sa_u h1 zqkk zq2 zquf | ((simp [w_sa, *]; done)) | (exfalso; first | contradiction | (simp_all; done)))); (case zqc => (unfold isW; decide)))
                  · (try simp only [bi_0, Classical.not_not] at h39)
                    refine gp_iload dX9_says_99 rfl ?_
                    refine gp_pu (st' := .int (6) :: _) dX9_says_101 rfl ?_
                    refine gp_icc (t := 110) dX9_says_103 (by decide) c2_ne (fun h43 => ?_) (fun h43 => ?_)
                    · (try simp only [bi_0, Classical.not_not] at h43)
                      refine gp_pu (st' := .int (0) :: _) dX9_says_110 rfl ?_
                      refine gp_istore (ls' := [some (.ref _), some (.int _), some (.int _), some (.int _), some (.int _), some (.int _)]) dX9_says_111 rfl (Nat.le_of_ble_eq_true rfl) ?_
                      refine gp_iload_n dX9_says_113 rfl ?_
                      refine gp_ifc (t := 135) dX9_says_114 (by decide) c1_eq (fun h44 => ?_) (fun h44 => ?_)
                      · (try simp only [bi_0, Classical.not_not] at h44)
                        (have zqu : undB (I 110 (I 121 s.toNatClampNeg).toNatClampNeg) k = true := by rw [und_B]; unfold und; first | (simp [*]; done) | (simp_all; done)
                         have hw : w_sa I s k = 0 := by first | (simp [w_sa, *]; done) | (simp_all [w_sa]; done)
                         rw [hw]
                         exact en_msays _ v hs zqh2 zqkk _ _)
                      · (try simp only [bi_0, Classical.not_not] at h44)
                        refine gp_iload_n dX9_says_117 rfl ?_
                        refine gp_iload dX9_says_118 rfl ?_
                        refine gp_icc (t := 135) dX9_says_120 (by decide) c2_eq (fun h45 => ?_) (fun h45 => ?_)
                        · (try simp only [bi_0, Classical.not_not] at h45)
                          (have zqu : undB (I 110 (I 121 s.toNatClampNeg).toNatClampNeg) k = true := by rw [und_B]; unfold und; first | (simp [*]; done) | (simp_all; done)
                           have hw : w_sa I s k = 0 := by first | (simp [w_sa, *]; done) | (simp_all [w_sa]; done)
                           rw [hw]
                           exact en_msays _ v hs zqh2 zqkk _ _)
                        · (try simp only [bi_0, Classical.not_not] at h45)
                          refine gp_iload dX9_says_123 rfl ?_
                          refine gp_ifc (t := 135) dX9_says_125 (by decide) c1_ne (fun h46 => ?_) (fun h46 => ?_)
                          · (try simp only [bi_0, Classical.not_not] at h46)
                            (have zqu : undB (I 110 (I 121 s.toNatClampNeg).toNatClampNeg) k = true := by rw [und_B]; unfold und; first | (simp [*]; done) | (simp_all; done)
                             have hw : w_sa I s k = 0 := by first | (simp [w_sa, *]; done) | (simp_all [w_sa]; done)
                             rw [hw]
                             exact en_msays _ v hs zqh2 zqkk _ _)
                          · (try simp only [bi_0, Classical.not_not] at h46)
                            have zquf : ¬ undB (I 110 (I 121 s.toNatClampNeg).toNatClampNeg) k = true := by rw [und_B]; unfold und; first | (simp [*]; done) | (simp_all; done)
                            refine gp_aload_n dX9_says_128 rfl ?_
                            refine gp_pu (st' := .int (-2) :: _) dX9_says_129 rfl ?_
                            refine gp_call (kind := 1) (args := [.ref _, .int _]) (rest := _) dX9_says_131 (Or.inr (Or.inl ⟨rfl, rfl⟩)) mk_9_127 (by decide) me_127 rfl rfl rfl rfl rfl (mm_rc_of (by first | rfl | assumption | (simp only [*]; done))) (ok_X9_no _ _ _ _ (by decide)) rfl ?_
                            refine gp_iret dX9_says_134 rfl ?_
                            first | (refine mNo ?zqa ?zqc hs; (case zqa => (first | exact w_sa_u h1 zqkk zq2 zquf | ((simp [w_sa, *]; done)) | (exfalso; first | contradiction | (simp_all; done)))); (case zqc => (unfold isW; decide)))
                    · (try simp only [bi_0, Classical.not_not] at h43)
                      refine gp_pu (st' := .int (1) :: _) dX9_says_106 rfl ?_
                      refine gp_goto (t := 111) dX9_says_107 (by decide) ?_
                      refine gp_istore (ls' := [some (.ref _), some (.int _), some (.int _), some (.int _), some (.int _), some (.int _)]) dX9_says_111 rfl (Nat.le_of_ble_eq_true rfl) ?_
                      refine gp_iload_n dX9_says_113 rfl ?_
                      refine gp_ifc (t := 135) dX9_says_114 (by decide) c1_eq (fun h47 => ?_) (fun h47 => ?_)
                      · (try simp only [bi_0, Classical.not_not] at h47)
                        (have zqu : undB (I 110 (I 121 s.toNatClampNeg).toNatClampNeg) k = true := by rw [und_B]; unfold und; first | (simp [*]; done) | (simp_all; done)
                         have hw : w_sa I s k = 0 := by first | (simp [w_sa, *]; done) | (simp_all [w_sa]; done)
                         rw [hw]
                         exact en_msays _ v hs zqh2 zqkk _ _)
                      · (try simp only [bi_0, Classical.not_not] at h47)
                        refine gp_iload_n dX9_says_117 rfl ?_
                        refine gp_iload dX9_says_118 rfl ?_
                        refine gp_icc (t := 135) dX9_says_120 (by decide) c2_eq (fun h48 => ?_) (fun h48 => ?_)
                        · (try simp only [bi_0, Classical.not_not] at h48)
                          (have zqu : undB (I 110 (I 121 s.toNatClampNeg).toNatClampNeg) k = true := by rw [und_B]; unfold und; first | (simp [*]; done) | (simp_all; done)
                           have hw : w_sa I s k = 0 := by first | (simp [w_sa, *]; done) | (simp_all [w_sa]; done)
                           rw [hw]
                           exact en_msays _ v hs zqh2 zqkk _ _)
                        · (try simp only [bi_0, Classical.not_not] at h48)
                          refine gp_iload dX9_says_123 rfl ?_
                          refine gp_ifc (t := 135) dX9_says_125 (by decide) c1_ne (fun h49 => ?_) (fun h49 => ?_)
                          · (try simp only [bi_0, Classical.not_not] at h49)
                            (have zqu : undB (I 110 (I 121 s.toNatClampNeg).toNatClampNeg) k = true := by rw [und_B]; unfold und; first | (simp [*]; done) | (simp_all; done)
                             have hw : w_sa I s k = 0 := by first | (simp [w_sa, *]; done) | (simp_all [w_sa]; done)
                             rw [hw]
                             exact en_msays _ v hs zqh2 zqkk _ _)
                          · (try simp only [bi_0, Classical.not_not] at h49)
                            have zquf : ¬ undB (I 110 (I 121 s.toNatClampNeg).toNatClampNeg) k = true := by rw [und_B]; unfold und; first | (simp [*]; done) | (simp_all; done)
                            refine gp_aload_n dX9_says_128 rfl ?_
                            refine gp_pu (st' := .int (-2) :: _) dX9_says_129 rfl ?_
                            refine gp_call (kind := 1) (args := [.ref _, .int _]) (rest := _) dX9_says_131 (Or.inr (Or.inl ⟨rfl, rfl⟩)) mk_9_127 (by decide) me_127 rfl rfl rfl rfl rfl (mm_rc_of (by first | rfl | assumption | (simp only [*]; done))) (ok_X9_no _ _ _ _ (by decide)) rfl ?_
                            refine gp_iret dX9_says_134 rfl ?_
                            first | (refine mNo ?zqa ?zqc hs; (case zqa => (first | exact w_sa_u h1 zqkk zq2 zquf | ((simp [w_sa, *]; done)) | (exfalso; first | contradiction | (simp_all; done)))); (case zqc => (unfold isW; decide)))
                · (try simp only [bi_0, Classical.not_not] at h38)
                  refine gp_iload dX9_says_88 rfl ?_
                  refine gp_pu (st' := .int (5) :: _) dX9_says_90 rfl ?_
                  refine gp_icc (t := 106) dX9_says_91 (by decide) c2_eq (fun h50 => ?_) (fun h50 => ?_)
                  · (try simp only [bi_0, Classical.not_not] at h50)
                    refine gp_pu (st' := .int (1) :: _) dX9_says_106 rfl ?_
                    refine gp_goto (t := 111) dX9_says_107 (by decide) ?_
                    refine gp_istore (ls' := [some (.ref _), some (.int _), some (.int _), some (.int _), some (.int _), some (.int _)]) dX9_says_111 rfl (Nat.le_of_ble_eq_true rfl) ?_
                    refine gp_iload_n dX9_says_113 rfl ?_
                    refine gp_ifc (t := 135) dX9_says_114 (by decide) c1_eq (fun h51 => ?_) (fun h51 => ?_)
                    · (try simp only [bi_0, Classical.not_not] at h51)
                      (have zqu : undB (I 110 (I 121 s.toNatClampNeg).toNatClampNeg) k = true := by rw [und_B]; unfold und; first | (simp [*]; done) | (simp_all; done)
                       have hw : w_sa I s k = 0 := by first | (simp [w_sa, *]; done) | (simp_all [w_sa]; done)
                       rw [hw]
                       exact en_msays _ v hs zqh2 zqkk _ _)
                    · (try simp only [bi_0, Classical.not_not] at h51)
                      refine gp_iload_n dX9_says_117 rfl ?_
                      refine gp_iload dX9_says_118 rfl ?_
                      refine gp_icc (t := 135) dX9_says_120 (by decide) c2_eq (fun h52 => ?_) (fun h52 => ?_)
                      · (try simp only [bi_0, Classical.not_not] at h52)
                        (have zqu : undB (I 110 (I 121 s.toNatClampNeg).toNatClampNeg) k = true := by rw [und_B]; unfold und; first | (simp [*]; done) | (simp_all; done)
                         have hw : w_sa I s k = 0 := by first | (simp [w_sa, *]; done) | (simp_all [w_sa]; done)
                         rw [hw]
                         exact en_msays _ v hs zqh2 zqkk _ _)
                      · (try simp only [bi_0, Classical.not_not] at h52)
                        refine gp_iload dX9_says_123 rfl ?_
                        refine gp_ifc (t := 135) dX9_says_125 (by decide) c1_ne (fun h53 => ?_) (fun h53 => ?_)
                        · (try simp only [bi_0, Classical.not_not] at h53)
                          (have zqu : undB (I 110 (I 121 s.toNatClampNeg).toNatClampNeg) k = true := by rw [und_B]; unfold und; first | (simp [*]; done) | (simp_all; done)
                           have hw : w_sa I s k = 0 := by first | (simp [w_sa, *]; done) | (simp_all [w_sa]; done)
                           rw [hw]
                           exact en_msays _ v hs zqh2 zqkk _ _)
                        · (try simp only [bi_0, Classical.not_not] at h53)
                          have zquf : ¬ undB (I 110 (I 121 s.toNatClampNeg).toNatClampNeg) k = true := by rw [und_B]; unfold und; first | (simp [*]; done) | (simp_all; done)
                          refine gp_aload_n dX9_says_128 rfl ?_
                          refine gp_pu (st' := .int (-2) :: _) dX9_says_129 rfl ?_
                          refine gp_call (kind := 1) (args := [.ref _, .int _]) (rest := _) dX9_says_131 (Or.inr (Or.inl ⟨rfl, rfl⟩)) mk_9_127 (by decide) me_127 rfl rfl rfl rfl rfl (mm_rc_of (by first | rfl | assumption | (simp only [*]; done))) (ok_X9_no _ _ _ _ (by decide)) rfl ?_
                          refine gp_iret dX9_says_134 rfl ?_
                          first | (refine mNo ?zqa ?zqc hs; (case zqa => (first | exact w_sa_u h1 zqkk zq2 zquf | ((simp [w_sa, *]; done)) | (exfalso; first | contradiction | (simp_all; done)))); (case zqc => (unfold isW; decide)))
                  · (try simp only [bi_0, Classical.not_not] at h50)
                    refine gp_iload_n dX9_says_94 rfl ?_
                    refine gp_pu (st' := .int (4) :: _) dX9_says_95 rfl ?_
                    refine gp_icc (t := 110) dX9_says_96 (by decide) c2_ne (fun h54 => ?_) (fun h54 => ?_)
                    · (try simp only [bi_0, Classical.not_not] at h54)
                      refine gp_pu (st' := .int (0) :: _) dX9_says_110 rfl ?_
                      refine gp_istore (ls' := [some (.ref _), some (.int _), some (.int _), some (.int _), some (.int _), some (.int _)]) dX9_says_111 rfl (Nat.le_of_ble_eq_true rfl) ?_
                      refine gp_iload_n dX9_says_113 rfl ?_
                      refine gp_ifc (t := 135) dX9_says_114 (by decide) c1_eq (fun h55 => ?_) (fun h55 => ?_)
                      · (try simp only [bi_0, Classical.not_not] at h55)
                        (have zqu : undB (I 110 (I 121 s.toNatClampNeg).toNatClampNeg) k = true := by rw [und_B]; unfold und; first | (simp [*]; done) | (simp_all; done)
                         have hw : w_sa I s k = 0 := by first | (simp [w_sa, *]; done) | (simp_all [w_sa]; done)
                         rw [hw]
                         exact en_msays _ v hs zqh2 zqkk _ _)
                      · (try simp only [bi_0, Classical.not_not] at h55)
                        refine gp_iload_n dX9_says_117 rfl ?_
                        refine gp_iload dX9_says_118 rfl ?_
                        refine gp_icc (t := 135) dX9_says_120 (by decide) c2_eq (fun h56 => ?_) (fun h56 => ?_)
                        · (try simp only [bi_0, Classical.not_not] at h56)
                          (have zqu : undB (I 110 (I 121 s.toNatClampNeg).toNatClampNeg) k = true := by rw [und_B]; unfold und; first | (simp [*]; done) | (simp_all; done)
                           have hw : w_sa I s k = 0 := by first | (simp [w_sa, *]; done) | (simp_all [w_sa]; done)
                           rw [hw]
                           exact en_msays _ v hs zqh2 zqkk _ _)
                        · (try simp only [bi_0, Classical.not_not] at h56)
                          refine gp_iload dX9_says_123 rfl ?_
                          refine gp_ifc (t := 135) dX9_says_125 (by decide) c1_ne (fun h57 => ?_) (fun h57 => ?_)
                          · (try simp only [bi_0, Classical.not_not] at h57)
                            (have zqu : undB (I 110 (I 121 s.toNatClampNeg).toNatClampNeg) k = true := by rw [und_B]; unfold und; first | (simp [*]; done) | (simp_all; done)
                             have hw : w_sa I s k = 0 := by first | (simp [w_sa, *]; done) | (simp_all [w_sa]; done)
                             rw [hw]
                             exact en_msays _ v hs zqh2 zqkk _ _)
                          · (try simp only [bi_0, Classical.not_not] at h57)
                            have zquf : ¬ undB (I 110 (I 121 s.toNatClampNeg).toNatClampNeg) k = true := by rw [und_B]; unfold und; first | (simp [*]; done) | (simp_all; done)
                            refine gp_aload_n dX9_says_128 rfl ?_
                            refine gp_pu (st' := .int (-2) :: _) dX9_says_129 rfl ?_
                            refine gp_call (kind := 1) (args := [.ref _, .int _]) (rest := _) dX9_says_131 (Or.inr (Or.inl ⟨rfl, rfl⟩)) mk_9_127 (by decide) me_127 rfl rfl rfl rfl rfl (mm_rc_of (by first | rfl | assumption | (simp only [*]; done))) (ok_X9_no _ _ _ _ (by decide)) rfl ?_
                            refine gp_iret dX9_says_134 rfl ?_
                            first | (refine mNo ?zqa ?zqc hs; (case zqa => (first | exact w_sa_u h1 zqkk zq2 zquf | ((simp [w_sa, *]; done)) | (exfalso; first | contradiction | (simp_all; done)))); (case zqc => (unfold isW; decide)))
                    · (try simp only [bi_0, Classical.not_not] at h54)
                      refine gp_iload dX9_says_99 rfl ?_
                      refine gp_pu (st' := .int (6) :: _) dX9_says_101 rfl ?_
                      refine gp_icc (t := 110) dX9_says_103 (by decide) c2_ne (fun h58 => ?_) (fun h58 => ?_)
                      · (try simp only [bi_0, Classical.not_not] at h58)
                        refine gp_pu (st' := .int (0) :: _) dX9_says_110 rfl ?_
                        refine gp_istore (ls' := [some (.ref _), some (.int _), some (.int _), some (.int _), some (.int _), some (.int _)]) dX9_says_111 rfl (Nat.le_of_ble_eq_true rfl) ?_
                        refine gp_iload_n dX9_says_113 rfl ?_
                        refine gp_ifc (t := 135) dX9_says_114 (by decide) c1_eq (fun h59 => ?_) (fun h59 => ?_)
                        · (try simp only [bi_0, Classical.not_not] at h59)
                          (have zqu : undB (I 110 (I 121 s.toNatClampNeg).toNatClampNeg) k = true := by rw [und_B]; unfold und; first | (simp [*]; done) | (simp_all; done)
                           have hw : w_sa I s k = 0 := by first | (simp [w_sa, *]; done) | (simp_all [w_sa]; done)
                           rw [hw]
                           exact en_msays _ v hs zqh2 zqkk _ _)
                        · (try simp only [bi_0, Classical.not_not] at h59)
                          refine gp_iload_n dX9_says_117 rfl ?_
                          refine gp_iload dX9_says_118 rfl ?_
                          refine gp_icc (t := 135) dX9_says_120 (by decide) c2_eq (fun h60 => ?_) (fun h60 => ?_)
                          · (try simp only [bi_0, Classical.not_not] at h60)
                            (have zqu : undB (I 110 (I 121 s.toNatClampNeg).toNatClampNeg) k = true := by rw [und_B]; unfold und; first | (simp [*]; done) | (simp_all; done)
                             have hw : w_sa I s k = 0 := by first | (simp [w_sa, *]; done) | (simp_all [w_sa]; done)
                             rw [hw]
                             exact en_msays _ v hs zqh2 zqkk _ _)
                          · (try simp only [bi_0, Classical.not_not] at h60)
                            refine gp_iload dX9_says_123 rfl ?_
                            refine gp_ifc (t := 135) dX9_says_125 (by decide) c1_ne (fun h61 => ?_) (fun h61 => ?_)
                            · (try simp only [bi_0, Classical.not_not] at h61)
                              (have zqu : undB (I 110 (I 121 s.toNatClampNeg).toNatClampNeg) k = true := by rw [und_B]; unfold und; first | (simp [*]; done) | (simp_all; done)
                               have hw : w_sa I s k = 0 := by first | (simp [w_sa, *]; done) | (simp_all [w_sa]; done)
                               rw [hw]
                               exact en_msays _ v hs zqh2 zqkk _ _)
                            · (try simp only [bi_0, Classical.not_not] at h61)
                              have zquf : ¬ undB (I 110 (I 121 s.toNatClampNeg).toNatClampNeg) k = true := by rw [und_B]; unfold und; first | (simp [*]; done) | (simp_all; done)
                              refine gp_aload_n dX9_says_128 rfl ?_
                              refine gp_pu (st' := .int (-2) :: _) dX9_says_129 rfl ?_
                              refine gp_call (kind := 1) (args := [.ref _, .int _]) (rest := _) dX9_says_131 (Or.inr (Or.inl ⟨rfl, rfl⟩)) mk_9_127 (by decide) me_127 rfl rfl rfl rfl rfl (mm_rc_of (by first | rfl | assumption | (simp only [*]; done))) (ok_X9_no _ _ _ _ (by decide)) rfl ?_
                              refine gp_iret dX9_says_134 rfl ?_
                              first | (refine mNo ?zqa ?zqc hs; (case zqa => (first | exact w_sa_u h1 zqkk zq2 zquf | ((simp [w_sa, *]; done)) | (exfalso; first | contradiction | (simp_all; done)))); (case zqc => (unfold isW; decide)))
                      · (try simp only [bi_0, Classical.not_not] at h58)
                        refine gp_pu (st' := .int (1) :: _) dX9_says_106 rfl ?_
                        refine gp_goto (t := 111) dX9_says_107 (by decide) ?_
                        refine gp_istore (ls' := [some (.ref _), some (.int _), some (.int _), some (.int _), some (.int _), some (.int _)]) dX9_says_111 rfl (Nat.le_of_ble_eq_true rfl) ?_
                        refine gp_iload_n dX9_says_113 rfl ?_
                        refine gp_ifc (t := 135) dX9_says_114 (by decide) c1_eq (fun h62 => ?_) (fun h62 => ?_)
                        · (try simp only [bi_0, Classical.not_not] at h62)
                          (have zqu : undB (I 110 (I 121 s.toNatClampNeg).toNatClampNeg) k = true := by rw [und_B]; unfold und; first | (simp [*]; done) | (simp_all; done)
                           have hw : w_sa I s k = 0 := by first | (simp [w_sa, *]; done) | (simp_all [w_sa]; done)
                           rw [hw]
                           exact en_msays _ v hs zqh2 zqkk _ _)
                        · (try simp only [bi_0, Classical.not_not] at h62)
                          refine gp_iload_n dX9_says_117 rfl ?_
                          refine gp_iload dX9_says_118 rfl ?_
                          refine gp_icc (t := 135) dX9_says_120 (by decide) c2_eq (fun h63 => ?_) (fun h63 => ?_)
                          · (try simp only [bi_0, Classical.not_not] at h63)
                            (have zqu : undB (I 110 (I 121 s.toNatClampNeg).toNatClampNeg) k = true := by rw [und_B]; unfold und; first | (simp [*]; done) | (simp_all; done)
                             have hw : w_sa I s k = 0 := by first | (simp [w_sa, *]; done) | (simp_all [w_sa]; done)
                             rw [hw]
                             exact en_msays _ v hs zqh2 zqkk _ _)
                          · (try simp only [bi_0, Classical.not_not] at h63)
                            refine gp_iload dX9_says_123 rfl ?_
                            refine gp_ifc (t := 135) dX9_says_125 (by decide) c1_ne (fun h64 => ?_) (fun h64 => ?_)
                            · (try simp only [bi_0, Classical.not_not] at h64)
                              (have zqu : undB (I 110 (I 121 s.toNatClampNeg).toNatClampNeg) k = true := by rw [und_B]; unfold und; first | (simp [*]; done) | (simp_all; done)
                               have hw : w_sa I s k = 0 := by first | (simp [w_sa, *]; done) | (simp_all [w_sa]; done)
                               rw [hw]
                               exact en_msays _ v hs zqh2 zqkk _ _)
                            · (try simp only [bi_0, Classical.not_not] at h64)
                              have zquf : ¬ undB (I 110 (I 121 s.toNatClampNeg).toNatClampNeg) k = true := by rw [und_B]; unfold und; first | (simp [*]; done) | (simp_all; done)
                              refine gp_aload_n dX9_says_128 rfl ?_
                              refine gp_pu (st' := .int (-2) :: _) dX9_says_129 rfl ?_
                              refine gp_call (kind := 1) (args := [.ref _, .int _]) (rest := _) dX9_says_131 (Or.inr (Or.inl ⟨rfl, rfl⟩)) mk_9_127 (by decide) me_127 rfl rfl rfl rfl rfl (mm_rc_of (by first | rfl | assumption | (simp only [*]; done))) (ok_X9_no _ _ _ _ (by decide)) rfl ?_
                              refine gp_iret dX9_says_134 rfl ?_
                              first | (refine mNo ?zqa ?zqc hs; (case zqa => (first | exact w_sa_u h1 zqkk zq2 zquf | ((simp [w_sa, *]; done)) | (exfalso; first | contradiction | (simp_all; done)))); (case zqc => (unfold isW; decide)))
          · (try simp only [bi_0, Classical.not_not] at h5)
            refine gp_aload_n dX9_says_50 rfl ?_
            refine gp_pu (st' := .int (-3) :: _) dX9_says_51 rfl ?_
            refine gp_call (kind := 1) (args := [.ref _, .int _]) (rest := _) dX9_says_53 (Or.inr (Or.inl ⟨rfl, rfl⟩)) mk_9_127 (by decide) me_127 rfl rfl rfl rfl rfl (mm_rc_of (by first | rfl | assumption | (simp only [*]; done))) (ok_X9_no _ _ _ _ (by decide)) rfl ?_
            refine gp_iret dX9_says_56 rfl ?_
            first | (refine mNo ?zqa ?zqc hs; (case zqa => (first | exact w_sa_u h1 zqkk zq2 zquf | ((simp [w_sa, *]; done)) | (exfalso; first | contradiction | (simp_all; done)))); (case zqc => (unfold isW; decide)))
        · (try simp only [bi_0, Classical.not_not] at h4)
          refine gp_aload_n dX9_says_34 rfl ?_
          refine gp_pu (st' := .int (-2) :: _) dX9_says_35 rfl ?_
          refine gp_call (kind := 1) (args := [.ref _, .int _]) (rest := _) dX9_says_37 (Or.inr (Or.inl ⟨rfl, rfl⟩)) mk_9_127 (by decide) me_127 rfl rfl rfl rfl rfl (mm_rc_of (by first | rfl | assumption | (simp only [*]; done))) (ok_X9_no _ _ _ _ (by decide)) rfl ?_
          refine gp_iret dX9_says_40 rfl ?_
          first | (refine mNo ?zqa ?zqc hs; (case zqa => (first | exact w_sa_u h1 zqkk zq2 zquf | ((simp [w_sa, *]; done)) | (exfalso; first | contradiction | (simp_all; done)))); (case zqc => (unfold isW; decide)))
      · have h3' := Int32.not_le.mp h3
        (try simp only [bi_0, Classical.not_not] at h3)
        refine gp_aload_n dX9_says_18 rfl ?_
        refine gp_pu (st' := .int (-1) :: _) dX9_says_19 rfl ?_
        refine gp_call (kind := 1) (args := [.ref _, .int _]) (rest := _) dX9_says_20 (Or.inr (Or.inl ⟨rfl, rfl⟩)) mk_9_127 (by decide) me_127 rfl rfl rfl rfl rfl (mm_rc_of (by first | rfl | assumption | (simp only [*]; done))) (ok_X9_no _ _ _ _ (by decide)) rfl ?_
        refine gp_iret dX9_says_23 rfl ?_
        first | (refine mNo ?zqa ?zqc hs; (case zqa => (first | exact w_sa_u h1 zqkk zq2 zquf | ((simp [w_sa, *]; done)) | (exfalso; first | contradiction | (simp_all; done)))); (case zqc => (unfold isW; decide)))

theorem eq_says (s k : Int32) : eqc 66 139 [.int s, .int k] := by
  refine eqc_q fun I L hR => ?_
  obtain ⟨N, S, hb, hS, hL, hK, hT, hW, hE⟩ := hR
  refine ⟨_, w_sa I s k, w_sa_w I s k, cl_says 35 hb hS, fun C J hs => ml_says 35 hb.1 hs hS⟩
end P79
