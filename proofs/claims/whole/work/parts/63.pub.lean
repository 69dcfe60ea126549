/-! PUBLIC METHODS: trace, holds, element -/
section P63
variable {I C J : pI} {L : pL} {N S : Nat}

def q_tr (I : pI) (i : Int32) : Int32 := if i < 0 then -1 else if 20 ≤ i then -1 else if I 108 57 ≤ i then -1 else I 137 i.toNatClampNeg
theorem i_lt {i : Int32} {n : Nat} (h0 : ¬ i < 0) (h1 : ¬ nI n ≤ i) (hn : n ≤ 2000) : mm_in i n = true ∧ i.toNatClampNeg < n := by
  have h := (mm_in_i (x := i) (n := n) (by omega)).mpr ⟨Int32.not_lt.mp h0, Int32.not_le.mp h1⟩
  exact ⟨h, mm_in_lt h⟩

set_option maxHeartbeats 400000 in
theorem ct_noted (d : Nat) (hT : rT I) {i : Int32} : cP (d + 1) 17 [.ref 71, .int i] (mm_sh, mm_R, I, L) (pX (some (.int (q_tr I i))) L (fun K => K = I)) := by
  refine cP.of_gP (d := d + 0) me_17 ⟨Nat.le_of_ble_eq_true rfl, rfl⟩ ?_
  show gP mm_cs0 _ _ _ _ _ _ [some (.ref _), some (.int _)] [] _ _
  refine gp_iload_n dX3_noted_0 rfl ?_
  refine gp_ifc (t := 27) dX3_noted_1 (by decide) c1_lt (fun h1 => ?_) (fun h1 => ?_)
  · have h1' := Int32.not_le.mpr h1
    skip
    refine gp_pu (st' := .int (-1) :: _) dX3_noted_27 rfl ?_
    refine gp_iret dX3_noted_28 rfl ?_
    exact pX.mk (congrArg some (congrArg Value.int (by simp [q_tr, *]))) rfl
  · have h1' := Int32.not_lt.mp h1
    skip
    refine gp_iload_n dX3_noted_4 rfl ?_
    refine gp_aload_n dX3_noted_5 rfl ?_
    refine gp_giv dX3_noted_6 mf_3_35 (by decide) (by first | rfl | assumption | (simp only [*]; done)) (by first | exact hT.1 | exact hT.2 _ zqa2 | exact rfl) ?_
    refine gp_icc (t := 27) dX3_noted_9 (by decide) c2_ge (fun h2 => ?_) (fun h2 => ?_)
    · have h2' := Int32.not_lt.mpr h2
      skip
      refine gp_pu (st' := .int (-1) :: _) dX3_noted_27 rfl ?_
      refine gp_iret dX3_noted_28 rfl ?_
      exact pX.mk (congrArg some (congrArg Value.int (by simp [q_tr, *]))) rfl
    · have h2' := Int32.not_le.mp h2
      skip
      refine gp_iload_n dX3_noted_12 rfl ?_
      refine gp_pu (st' := .int (20) :: _) dX3_noted_13 rfl ?_
      refine gp_icc (t := 27) dX3_noted_15 (by decide) c2_ge (fun h3 => ?_) (fun h3 => ?_)
      · have h3' := Int32.not_lt.mpr h3
        skip
        refine gp_pu (st' := .int (-1) :: _) dX3_noted_27 rfl ?_
        refine gp_iret dX3_noted_28 rfl ?_
        exact pX.mk (congrArg some (congrArg Value.int (by simp [q_tr, *]))) rfl
      · have h3' := Int32.not_le.mp h3
        skip
        obtain ⟨zqa1, zqa2⟩ := i_lt (n := 20) h1 h3 (by omega)
        refine gp_aload_n dX3_noted_18 rfl ?_
        refine gp_gr dX3_noted_19 mf_3_11 rfl (by first | rfl | assumption | (simp only [*]; done)) (by first | rfl | assumption | (simp only [*]; done)) ?_
        refine gp_iload_n dX3_noted_22 rfl ?_
        refine gp_ialv dX3_noted_23 rfl (by first | rfl | assumption | (simp only [*]; done)) (by first | rfl | assumption | (simp only [*]; done)) (by first | exact hT.1 | exact hT.2 _ zqa2 | exact rfl) ?_
        refine gp_goto (t := 28) dX3_noted_24 (by decide) ?_
        refine gp_iret dX3_noted_28 rfl ?_
        exact pX.mk (congrArg some (congrArg Value.int (by simp [q_tr, *]))) rfl

set_option maxHeartbeats 400000 in
theorem cl_trace (d : Nat) (hb : bR I N S) (hT : rT I) {i : Int32} : cP (d + 2) 96 [.ref 0, .int i] (mm_sh, mm_R, I, L) (pX (some (.int (q_tr I i))) L (sc I)) := by
  have hs := sc.rf I
  have e11 : I 1 1 = nI N := hb.c11 hs
  have e13 : I 1 3 = nI S := hb.c13 hs
  refine cP.of_gP (d := d + 1) me_96 ⟨Nat.le_of_ble_eq_true rfl, rfl⟩ ?_
  show gP mm_cs0 _ _ _ _ _ _ [some (.ref _), some (.int _)] [] _ _
  refine gp_aload_n dX8_trace_0 rfl ?_
  refine gp_gr dX8_trace_1 mf_8_56 rfl (by first | rfl | assumption | (simp only [*]; done)) (by first | rfl | assumption | (simp only [*]; done)) ?_
  refine gp_iload_n dX8_trace_4 rfl ?_
  refine gp_callX (kind := 1) (args := [.ref _, .int _]) (rest := _) dX8_trace_5 (Or.inr (Or.inl ⟨rfl, rfl⟩)) mk_8_350 (by decide) me_17 rfl rfl rfl rfl rfl (mm_rc_of (by first | rfl | assumption | (simp only [*]; done))) (ct_noted _ hT) ?_
  intro K1 hK1
  subst hK1
  refine gp_iret dX8_trace_8 rfl ?_
  first | (refine pX.mk (congrArg some (congrArg Value.int ?zqa)) (sc.rf _); (case zqa => (exact rfl)))

set_option maxHeartbeats 400000 in
theorem ml_trace (d : Nat) (v : vN I N S) (hs : mR I C J) {i : Int32} : cP (d + 1) 217 [.ref 108, .int i] (mm_sh, mm_R, J, L) (pX (some (.int (q_tr I i))) L (mR I C)) := by
  have m0 : J 108 0 = nI N := (hs.r (by decide)).trans v.2.2.1
  have m1 : J 108 1 = nI S := (hs.r (by decide)).trans v.2.2.2.1
  refine cP.of_gP (d := d + 0) me_217 ⟨Nat.le_of_ble_eq_true rfl, rfl⟩ ?_
  show gP mm_cs0 _ _ _ _ _ _ [some (.ref _), some (.int _)] [] _ _
  refine gp_iload_n dX9_trace_0 rfl ?_
  refine gp_ifc (t := 27) dX9_trace_1 (by decide) c1_lt (fun h1 => ?_) (fun h1 => ?_)
  · have h1' := Int32.not_le.mpr h1
    (try simp only [bi_0, bi_1, Classical.not_not, m0, m1] at h1)
    refine gp_pu (st' := .int (-1) :: _) dX9_trace_27 rfl ?_
    refine gp_iret dX9_trace_28 rfl ?_
    first | (refine pX.mk (congrArg some (congrArg Value.int ?zqa)) hs; (case zqa => ((simp [q_tr, *]; done))))
  · have h1' := Int32.not_lt.mp h1
    (try simp only [bi_0, bi_1, Classical.not_not, m0, m1] at h1)
    refine gp_iload_n dX9_trace_4 rfl ?_
    refine gp_pu (st' := .int (20) :: _) dX9_trace_5 rfl ?_
    refine gp_icc (t := 27) dX9_trace_7 (by decide) c2_ge (fun h2 => ?_) (fun h2 => ?_)
    · have h2' := Int32.not_lt.mpr h2
      (try simp only [bi_0, bi_1, Classical.not_not, m0, m1] at h2)
      refine gp_pu (st' := .int (-1) :: _) dX9_trace_27 rfl ?_
      refine gp_iret dX9_trace_28 rfl ?_
      first | (refine pX.mk (congrArg some (congrArg Value.int ?zqa)) hs; (case zqa => ((simp [q_tr, *]; done))))
    · have h2' := Int32.not_le.mp h2
      (try simp only [bi_0, bi_1, Classical.not_not, m0, m1] at h2)
      refine gp_iload_n dX9_trace_10 rfl ?_
      refine gp_aload_n dX9_trace_11 rfl ?_
      refine gp_giv dX9_trace_12 mf_9_346 (by decide) (by first | rfl | assumption | (simp only [*]; done)) (by first | exact hs.1 _ _ rfl | exact rfl) ?_
      refine gp_icc (t := 27) dX9_trace_15 (by decide) c2_ge (fun h3 => ?_) (fun h3 => ?_)
      · have h3' := Int32.not_lt.mpr h3
        (try simp only [bi_0, bi_1, Classical.not_not, m0, m1] at h3)
        refine gp_pu (st' := .int (-1) :: _) dX9_trace_27 rfl ?_
        refine gp_iret dX9_trace_28 rfl ?_
        first | (refine pX.mk (congrArg some (congrArg Value.int ?zqa)) hs; (case zqa => ((simp [q_tr, *]; done))))
      · have h3' := Int32.not_le.mp h3
        (try simp only [bi_0, bi_1, Classical.not_not, m0, m1] at h3)
        obtain ⟨zqa1, zqa2⟩ := i_lt (n := 20) h1 h2 (by omega)
        refine gp_aload_n dX9_trace_18 rfl ?_
        refine gp_gr dX9_trace_19 mf_9_114 rfl (by first | rfl | assumption | (simp only [*]; done)) (by first | rfl | assumption | (simp only [*]; done)) ?_
        refine gp_iload_n dX9_trace_22 rfl ?_
        refine gp_ialv dX9_trace_23 rfl (by first | rfl | assumption | (simp only [*]; done)) (by first | rfl | assumption | (simp only [*]; done)) (by first | exact hs.1 _ _ rfl | exact rfl) ?_
        refine gp_goto (t := 28) dX9_trace_24 (by decide) ?_
        refine gp_iret dX9_trace_28 rfl ?_
        first | (refine pX.mk (congrArg some (congrArg Value.int ?zqa)) hs; (case zqa => ((simp [q_tr, *]; done))))

theorem eq_trace (i : Int32) : eqc 96 217 [.int i] := by
  refine eqc_q0 fun I L hR => ?_
  obtain ⟨N, S, hb, hS, hL, hK, hT, hW, hE⟩ := hR
  exact ⟨_, cl_trace 38 hb hT, fun C J hs => ml_trace 39 hb.1 hs⟩

def q_hd (I : pI) (s : Int32) : Int32 := if ¬ (0 ≤ s ∧ s < 8) then -1 else if I 118 s.toNatClampNeg = 0 then -1 else if I 118 s.toNatClampNeg = 1 then 100 + I 119 s.toNatClampNeg else I 121 s.toNatClampNeg
theorem q_hd_c {s : Int32} (hS : ∀ s, s < 8 → rSh I s) (h : 0 ≤ s ∧ s < 8) : I (76 + 2 * s.toNatClampNeg) 0 = q_hd I s := by
  have q := hS _ (sh_s h).2.2.2.2
  unfold q_hd
  rw [if_neg (fun z => z h)]
  rcases q with ⟨q1, q2, q3⟩ | ⟨q1, q2, q3, q4⟩ | ⟨q1, q2, q3, q4⟩
  · rw [if_pos q1, q2]
  · rw [q1, if_neg (by decide), if_pos rfl, q3]
  · rw [q1, if_neg (by decide), if_neg (by decide), q2]

set_option maxHeartbeats 400000 in
theorem cl_holds (d : Nat) (hb : bR I N S) (hS : ∀ s, s < 8 → rSh I s) {s : Int32} : cP (d + 2) 65 [.ref 0, .int s] (mm_sh, mm_R, I, L) (pX (some (.int (q_hd I s))) L (sc I)) := by
  have hs := sc.rf I
  have e11 : I 1 1 = nI N := hb.c11 hs
  have e13 : I 1 3 = nI S := hb.c13 hs
  refine cP.of_gP (d := d + 1) me_65 ⟨Nat.le_of_ble_eq_true rfl, rfl⟩ ?_
  show gP mm_cs0 _ _ _ _ _ _ [some (.ref _), some (.int _)] [] _ _
  refine gp_iload_n dX8_holds_0 rfl ?_
  refine gp_call (kind := 0) (args := [.int _]) (rest := _) dX8_holds_1 (Or.inl ⟨rfl, rfl⟩) mk_8_75 (by decide) me_101 rfl rfl rfl rfl rfl rfl (ok_X8_isShelf _ _ _ _) rfl ?_
  refine gp_ifc (t := 19) dX8_holds_4 (by decide) c1_eq (fun h1 => ?_) (fun h1 => ?_)
  · (try simp only [bi_0, bi_1, Classical.not_not, e11, e13] at h1)
    refine gp_pu (st' := .int (-1) :: _) dX8_holds_19 rfl ?_
    refine gp_iret dX8_holds_20 rfl ?_
    first | (refine pX.mk (congrArg some (congrArg Value.int ?zqa)) (sc.rf _); (case zqa => ((simp [q_hd, *]; done)))) | (refine pX.mk (congrArg some (congrArg Value.int ?zqa)) (sc.rf _); (case zqa => (exact rfl)))
  · (try simp only [bi_0, bi_1, Classical.not_not, e11, e13] at h1)
    obtain ⟨zqs1, zqs2, zqs3, zqs4, zqs5⟩ := sh_s (s := s) (by assumption)
    refine gp_aload_n dX8_holds_7 rfl ?_
    refine gp_gr dX8_holds_8 mf_8_24 rfl (by first | rfl | assumption | (simp only [*]; done)) (by first | rfl | assumption | (simp only [*]; done)) ?_
    refine gp_iload_n dX8_holds_11 rfl ?_
    refine gp_aal dX8_holds_12 (by first | rfl | assumption | (simp only [*]; done)) (by decide) (by first | rfl | assumption | (simp only [*]; done)) (by first | rfl | assumption | (simp only [*]; done)) ?_
    refine gp_giv dX8_holds_13 mf_8_132 (by decide) (by first | rfl | assumption | (simp only [*]; done)) (by first | exact q_hd_c hS (by assumption) | exact rfl) ?_
    refine gp_goto (t := 20) dX8_holds_16 (by decide) ?_
    refine gp_iret dX8_holds_20 rfl ?_
    first | (refine pX.mk (congrArg some (congrArg Value.int ?zqa)) (sc.rf _); (case zqa => ((simp [q_hd, *]; done)))) | (refine pX.mk (congrArg some (congrArg Value.int ?zqa)) (sc.rf _); (case zqa => (exact rfl)))

set_option maxHeartbeats 400000 in
theorem ml_holds (d : Nat) (v : vN I N S) (hs : mR I C J) {s : Int32} : cP (d + 2) 138 [.ref 108, .int s] (mm_sh, mm_R, J, L) (pX (some (.int (q_hd I s))) L (mR I C)) := by
  have m0 : J 108 0 = nI N := (hs.r (by decide)).trans v.2.2.1
  have m1 : J 108 1 = nI S := (hs.r (by decide)).trans v.2.2.2.1
  refine cP.of_gP (d := d + 1) me_138 ⟨Nat.le_of_ble_eq_true rfl, rfl⟩ ?_
  show gP mm_cs0 _ _ _ _ _ _ [some (.ref _), some (.int _)] [] _ _
  refine gp_aload_n dX9_holds_0 rfl ?_
  refine gp_iload_n dX9_holds_1 rfl ?_
  refine gp_call (kind := 1) (args := [.ref _, .int _]) (rest := _) dX9_holds_2 (Or.inr (Or.inl ⟨rfl, rfl⟩)) mk_9_123 (by decide) me_129 rfl rfl rfl rfl rfl (mm_rc_of (by first | rfl | assumption | (simp only [*]; done))) (ok_X9_isShelf _ _ _ _) rfl ?_
  refine gp_ifc (t := 17) dX9_holds_5 (by decide) c1_eq (fun h1 => ?_) (fun h1 => ?_)
  · (try simp only [bi_0, bi_1, Classical.not_not, m0, m1] at h1)
    refine gp_pu (st' := .int (-1) :: _) dX9_holds_17 rfl ?_
    refine gp_iret dX9_holds_18 rfl ?_
    first | (refine pX.mk (congrArg some (congrArg Value.int ?zqa)) hs; (case zqa => ((simp [q_hd, *]; done))))
  · (try simp only [bi_0, bi_1, Classical.not_not, m0, m1] at h1)
    obtain ⟨zqs1, zqs2, zqs3, zqs4, zqs5⟩ := sh_s (s := s) (by assumption)
    refine gp_aload_n dX9_holds_8 rfl ?_
    refine gp_gr dX9_holds_9 mf_9_56 rfl (by first | rfl | assumption | (simp only [*]; done)) (by first | rfl | assumption | (simp only [*]; done)) ?_
    refine gp_iload_n dX9_holds_12 rfl ?_
    refine gp_ialv dX9_holds_13 rfl (by first | rfl | assumption | (simp only [*]; done)) (by first | rfl | assumption | (simp only [*]; done)) (by first | exact hs.1 _ _ rfl | exact rfl) ?_
    refine gp_ifc (t := 19) dX9_holds_14 (by decide) c1_ne (fun h2 => ?_) (fun h2 => ?_)
    · (try simp only [bi_0, bi_1, Classical.not_not, m0, m1] at h2)
      refine gp_aload_n dX9_holds_19 rfl ?_
      refine gp_gr dX9_holds_20 mf_9_56 rfl (by first | rfl | assumption | (simp only [*]; done)) (by first | rfl | assumption | (simp only [*]; done)) ?_
      refine gp_iload_n dX9_holds_23 rfl ?_
      refine gp_ialv dX9_holds_24 rfl (by first | rfl | assumption | (simp only [*]; done)) (by first | rfl | assumption | (simp only [*]; done)) (by first | exact hs.1 _ _ rfl | exact rfl) ?_
      refine gp_pu (st' := .int (1) :: _) dX9_holds_25 rfl ?_
      refine gp_icc (t := 41) dX9_holds_26 (by decide) c2_ne (fun h3 => ?_) (fun h3 => ?_)
      · (try simp only [bi_0, bi_1, Classical.not_not, m0, m1] at h3)
        refine gp_aload_n dX9_holds_41 rfl ?_
        refine gp_gr dX9_holds_42 mf_9_65 rfl (by first | rfl | assumption | (simp only [*]; done)) (by first | rfl | assumption | (simp only [*]; done)) ?_
        refine gp_iload_n dX9_holds_45 rfl ?_
        refine gp_ialv dX9_holds_46 rfl (by first | rfl | assumption | (simp only [*]; done)) (by first | rfl | assumption | (simp only [*]; done)) (by first | exact hs.1 _ _ rfl | exact rfl) ?_
        refine gp_iret dX9_holds_47 rfl ?_
        first | (refine pX.mk (congrArg some (congrArg Value.int ?zqa)) hs; (case zqa => ((simp [q_hd, *]; done))))
      · (try simp only [bi_0, bi_1, Classical.not_not, m0, m1] at h3)
        refine gp_pu (st' := .int (100) :: _) dX9_holds_29 rfl ?_
        refine gp_aload_n dX9_holds_31 rfl ?_
        refine gp_gr dX9_holds_32 mf_9_59 rfl (by first | rfl | assumption | (simp only [*]; done)) (by first | rfl | assumption | (simp only [*]; done)) ?_
        refine gp_iload_n dX9_holds_35 rfl ?_
        refine gp_ialv dX9_holds_36 rfl (by first | rfl | assumption | (simp only [*]; done)) (by first | rfl | assumption | (simp only [*]; done)) (by first | exact hs.1 _ _ rfl | exact rfl) ?_
        refine gp_pu (st' := .int _ :: _) dX9_holds_37 rfl ?_
        refine gp_goto (t := 47) dX9_holds_38 (by decide) ?_
        refine gp_iret dX9_holds_47 rfl ?_
        first | (refine pX.mk (congrArg some (congrArg Value.int ?zqa)) hs; (case zqa => ((simp [q_hd, *]; done))))
    · (try simp only [bi_0, bi_1, Classical.not_not, m0, m1] at h2)
      refine gp_pu (st' := .int (-1) :: _) dX9_holds_17 rfl ?_
      refine gp_iret dX9_holds_18 rfl ?_
      first | (refine pX.mk (congrArg some (congrArg Value.int ?zqa)) hs; (case zqa => ((simp [q_hd, *]; done))))

theorem eq_holds (s : Int32) : eqc 65 138 [.int s] := by
  refine eqc_q0 fun I L hR => ?_
  obtain ⟨N, S, hb, hS, hL, hK, hT, hW, hE⟩ := hR
  exact ⟨_, cl_holds 38 hb hS, fun C J hs => ml_holds 38 hb.1 hs⟩

def q_el (I : pI) (L : pL) (s i : Int32) : Int64 := if ¬ (0 ≤ s ∧ s < 8) then 0 else if I 118 s.toNatClampNeg = 1 ∧ ¬ i < 0 ∧ i < I 120 s.toNatClampNeg then L 122 (160 * s.toNatClampNeg + i.toNatClampNeg) else 0
theorem rSh_z {s : Nat} (h : rSh I s) : I (76 + 2 * s) 1 ≤ 160 := by
  rcases h with ⟨q1, q2, q3⟩ | ⟨q1, q2, q3, q4, q5⟩ | ⟨q1, q2, q3, q4⟩
  · rw [q3]; decide
  · rw [q4, ti_le]; exact q5.2
  · rw [q3]; decide
theorem q_el_c {s i : Int32} (hS : ∀ s, s < 8 → rSh I s) (hL : rL L) (h : 0 ≤ s ∧ s < 8) : q_el I L s i = x_at I L (76 + 2 * s.toNatClampNeg) i := by
  have s5 := (sh_s h).2.2.2.2
  have q := hS _ s5
  unfold q_el x_at
  rw [if_neg (fun z => z h)]
  rcases q with ⟨q1, q2, q3⟩ | ⟨q1, q2, q3, q4, q5⟩ | ⟨q1, q2, q3, q4⟩
  · rw [q1, if_neg (by rintro ⟨z, -⟩; exact absurd z (by decide)), q3, if_neg]
    rintro ⟨a, b⟩
    rw [ti_le, ti_0] at a; rw [ti_lt, ti_0] at b; omega
  · rw [q1, q4]
    by_cases z : ¬ i < 0 ∧ i < I 120 s.toNatClampNeg
    · have hi : i.toNatClampNeg < 160 := by
        have a := z.1
        have b := z.2
        have c := q5.2
        rw [ti_lt, ti_0] at a
        rw [ti_lt] at b
        unfold Int32.toNatClampNeg
        omega
      rw [if_pos ⟨rfl, z⟩, if_pos ⟨Int32.not_lt.mp z.1, z.2⟩, show 76 + 2 * s.toNatClampNeg + 1 = 77 + 2 * s.toNatClampNeg by omega]
      exact (hL _ s5 _ hi).symm
    · rw [if_neg (fun a => z a.2), if_neg (fun a => z ⟨Int32.not_lt.mpr a.1, a.2⟩)]
  · rw [q1, if_neg (by rintro ⟨z, -⟩; exact absurd z (by decide)), q3, if_neg]
    rintro ⟨a, b⟩
    rw [ti_le, ti_0] at a; rw [ti_lt, ti_0] at b; omega
/-- the reference's place of an element -/
theorem pl_160 {s i : Int32} (h : 0 ≤ s ∧ s < 8) (h0 : ¬ i < 0) (h1 : i.toInt < 160) : mm_in (160 * s + i) 1280 = true ∧ (160 * s + i).toNatClampNeg = 160 * s.toNatClampNeg + i.toNatClampNeg := by
  have s5 := (sh_s h).2.2.2.2
  have es : nI s.toNatClampNeg = s := nI_cl h.1
  have ei : nI i.toNatClampNeg = i := nI_cl (Int32.not_lt.mp h0)
  have i5 : i.toNatClampNeg < 160 := by
    rw [ti_lt, ti_0] at h0
    unfold Int32.toNatClampNeg
    omega
  have e : 160 * s + i = nI (160 * s.toNatClampNeg + i.toNatClampNeg) := by
    conv => lhs; rw [← es, ← ei]
    rw [← nI_add]
    congr 1
    generalize s.toNatClampNeg = n at s5
    have : n = 0 ∨ n = 1 ∨ n = 2 ∨ n = 3 ∨ n = 4 ∨ n = 5 ∨ n = 6 ∨ n = 7 := by omega
    rcases this with rfl | rfl | rfl | rfl | rfl | rfl | rfl | rfl <;> decide
  rw [e]
  refine ⟨(mm_in_i (by omega)).mpr ⟨nI_pos' (by omega), nI_lt (by omega) (by omega)⟩, nI_clamp (by omega)⟩
theorem rSh_120 {s : Nat} (h : rSh I s) (h1 : I 118 s = 1) : wi (I 120 s) 0 160 := by
  rcases h with ⟨q1, q2, q3⟩ | ⟨q1, q2, q3, q4, q5⟩ | ⟨q1, q2, q3, q4⟩
  · rw [q1] at h1; exact absurd h1 (by decide)
  · exact q5
  · rw [q1] at h1; exact absurd h1 (by decide)

set_option maxHeartbeats 400000 in
theorem cl_element (d : Nat) (hb : bR I N S) (hS : ∀ s, s < 8 → rSh I s) (hL : rL L) {s i : Int32} : cP (d + 3) 63 [.ref 0, .int s, .int i] (mm_sh, mm_R, I, L) (pX (some (.long (q_el I L s i))) L (sc I)) := by
  have hs := sc.rf I
  have e11 : I 1 1 = nI N := hb.c11 hs
  have e13 : I 1 3 = nI S := hb.c13 hs
  refine cP.of_gP (d := d + 2) me_63 ⟨Nat.le_of_ble_eq_true rfl, rfl⟩ ?_
  show gP mm_cs0 _ _ _ _ _ _ [some (.ref _), some (.int _), some (.int _)] [] _ _
  refine gp_iload_n dX8_element_0 rfl ?_
  refine gp_call (kind := 0) (args := [.int _]) (rest := _) dX8_element_1 (Or.inl ⟨rfl, rfl⟩) mk_8_75 (by decide) me_101 rfl rfl rfl rfl rfl rfl (ok_X8_isShelf _ _ _ _) rfl ?_
  refine gp_ifc (t := 20) dX8_element_4 (by decide) c1_eq (fun h1 => ?_) (fun h1 => ?_)
  · (try simp only [bi_0, bi_1, Classical.not_not, e11, e13] at h1)
    refine gp_pu (st' := .long (0) :: _) dX8_element_20 rfl ?_
    refine gp_lret dX8_element_21 rfl ?_
    first | (refine pX.mk (congrArg some (congrArg Value.long ?zqa)) (sc.rf _); (case zqa => (exact (q_el_c (s := s) (i := i) hS hL (by assumption)).symm))) | (refine pX.mk (congrArg some (congrArg Value.long ?zqa)) (sc.rf _); (case zqa => ((simp [q_el, *]; done))))
  · (try simp only [bi_0, bi_1, Classical.not_not, e11, e13] at h1)
    obtain ⟨zqs1, zqs2, zqs3, zqs4, zqs5⟩ := sh_s (s := s) (by assumption)
    refine gp_aload_n dX8_element_7 rfl ?_
    refine gp_gr dX8_element_8 mf_8_24 rfl (by first | rfl | assumption | (simp only [*]; done)) (by first | rfl | assumption | (simp only [*]; done)) ?_
    refine gp_iload_n dX8_element_11 rfl ?_
    refine gp_aal dX8_element_12 (by first | rfl | assumption | (simp only [*]; done)) (by decide) (by first | rfl | assumption | (simp only [*]; done)) (by first | rfl | assumption | (simp only [*]; done)) ?_
    refine gp_iload_n dX8_element_13 rfl ?_
    refine gp_call (kind := 1) (args := [.ref _, .int _]) (rest := _) dX8_element_14 (Or.inr (Or.inl ⟨rfl, rfl⟩)) mk_8_122 (by decide) me_57 rfl rfl rfl rfl rfl (mm_rc_of (by first | rfl | assumption | (simp only [*]; done))) (ok_X7_at _ _ _ _ zqs3 _ (rSh_z (hS _ zqs5))) rfl ?_
    refine gp_goto (t := 21) dX8_element_17 (by decide) ?_
    refine gp_lret dX8_element_21 rfl ?_
    first | (refine pX.mk (congrArg some (congrArg Value.long ?zqa)) (sc.rf _); (case zqa => (exact (q_el_c (s := s) (i := i) hS hL (by assumption)).symm))) | (refine pX.mk (congrArg some (congrArg Value.long ?zqa)) (sc.rf _); (case zqa => ((simp [q_el, *]; done))))

set_option maxHeartbeats 400000 in
theorem ml_element (d : Nat) (v : vN I N S) (hs : mR I C J) (hS : ∀ s, s < 8 → rSh I s) {s i : Int32} : cP (d + 2) 136 [.ref 108, .int s, .int i] (mm_sh, mm_R, J, L) (pX (some (.long (q_el I L s i))) L (mR I C)) := by
  have m0 : J 108 0 = nI N := (hs.r (by decide)).trans v.2.2.1
  have m1 : J 108 1 = nI S := (hs.r (by decide)).trans v.2.2.2.1
  refine cP.of_gP (d := d + 1) me_136 ⟨Nat.le_of_ble_eq_true rfl, rfl⟩ ?_
  show gP mm_cs0 _ _ _ _ _ _ [some (.ref _), some (.int _), some (.int _)] [] _ _
  refine gp_aload_n dX9_element_0 rfl ?_
  refine gp_iload_n dX9_element_1 rfl ?_
  refine gp_call (kind := 1) (args := [.ref _, .int _]) (rest := _) dX9_element_2 (Or.inr (Or.inl ⟨rfl, rfl⟩)) mk_9_123 (by decide) me_129 rfl rfl rfl rfl rfl (mm_rc_of (by first | rfl | assumption | (simp only [*]; done))) (ok_X9_isShelf _ _ _ _) rfl ?_
  refine gp_ifc (t := 47) dX9_element_5 (by decide) c1_eq (fun h1 => ?_) (fun h1 => ?_)
  · (try simp only [bi_0, bi_1, Classical.not_not, m0, m1] at h1)
    refine gp_pu (st' := .long (0) :: _) dX9_element_47 rfl ?_
    refine gp_lret dX9_element_48 rfl ?_
    first | (refine pX.mk (congrArg some (congrArg Value.long ?zqa)) hs; (case zqa => ((simp [q_el, *]; done)))) | (refine pX.mk (congrArg some (congrArg Value.long ?zqa)) hs; (case zqa => ((simp only [q_el, zqp2]; simp [*]; done))))
  · (try simp only [bi_0, bi_1, Classical.not_not, m0, m1] at h1)
    obtain ⟨zqs1, zqs2, zqs3, zqs4, zqs5⟩ := sh_s (s := s) (by assumption)
    refine gp_aload_n dX9_element_8 rfl ?_
    refine gp_gr dX9_element_9 mf_9_56 rfl (by first | rfl | assumption | (simp only [*]; done)) (by first | rfl | assumption | (simp only [*]; done)) ?_
    refine gp_iload_n dX9_element_12 rfl ?_
    refine gp_ialv dX9_element_13 rfl (by first | rfl | assumption | (simp only [*]; done)) (by first | rfl | assumption | (simp only [*]; done)) (by first | exact hs.1 _ _ rfl | exact rfl) ?_
    refine gp_pu (st' := .int (1) :: _) dX9_element_14 rfl ?_
    refine gp_icc (t := 47) dX9_element_15 (by decide) c2_ne (fun h2 => ?_) (fun h2 => ?_)
    · (try simp only [bi_0, bi_1, Classical.not_not, m0, m1] at h2)
      refine gp_pu (st' := .long (0) :: _) dX9_element_47 rfl ?_
      refine gp_lret dX9_element_48 rfl ?_
      first | (refine pX.mk (congrArg some (congrArg Value.long ?zqa)) hs; (case zqa => ((simp [q_el, *]; done)))) | (refine pX.mk (congrArg some (congrArg Value.long ?zqa)) hs; (case zqa => ((simp only [q_el, zqp2]; simp [*]; done))))
    · (try simp only [bi_0, bi_1, Classical.not_not, m0, m1] at h2)
      refine gp_iload_n dX9_element_18 rfl ?_
      refine gp_ifc (t := 47) dX9_element_19 (by decide) c1_lt (fun h3 => ?_) (fun h3 => ?_)
      · have h3' := Int32.not_le.mpr h3
        (try simp only [bi_0, bi_1, Classical.not_not, m0, m1] at h3)
        refine gp_pu (st' := .long (0) :: _) dX9_element_47 rfl ?_
        refine gp_lret dX9_element_48 rfl ?_
        first | (refine pX.mk (congrArg some (congrArg Value.long ?zqa)) hs; (case zqa => ((simp [q_el, *]; done)))) | (refine pX.mk (congrArg some (congrArg Value.long ?zqa)) hs; (case zqa => ((simp only [q_el, zqp2]; simp [*]; done))))
      · have h3' := Int32.not_lt.mp h3
        (try simp only [bi_0, bi_1, Classical.not_not, m0, m1] at h3)
        refine gp_iload_n dX9_element_22 rfl ?_
        refine gp_aload_n dX9_element_23 rfl ?_
        refine gp_gr dX9_element_24 mf_9_62 rfl (by first | rfl | assumption | (simp only [*]; done)) (by first | rfl | assumption | (simp only [*]; done)) ?_
        refine gp_iload_n dX9_element_27 rfl ?_
        refine gp_ialv dX9_element_28 rfl (by first | rfl | assumption | (simp only [*]; done)) (by first | rfl | assumption | (simp only [*]; done)) (by first | exact hs.1 _ _ rfl | exact rfl) ?_
        refine gp_icc (t := 47) dX9_element_29 (by decide) c2_ge (fun h4 => ?_) (fun h4 => ?_)
        · have h4' := Int32.not_lt.mpr h4
          (try simp only [bi_0, bi_1, Classical.not_not, m0, m1] at h4)
          refine gp_pu (st' := .long (0) :: _) dX9_element_47 rfl ?_
          refine gp_lret dX9_element_48 rfl ?_
          first | (refine pX.mk (congrArg some (congrArg Value.long ?zqa)) hs; (case zqa => ((simp [q_el, *]; done)))) | (refine pX.mk (congrArg some (congrArg Value.long ?zqa)) hs; (case zqa => ((simp only [q_el, zqp2]; simp [*]; done))))
        · have h4' := Int32.not_le.mp h4
          (try simp only [bi_0, bi_1, Classical.not_not, m0, m1] at h4)
          have zq160 := rSh_120 (hS _ zqs5) h2
          have zqi160 : i.toInt < 160 := by have a := h4'; rw [ti_lt] at a; have := zq160.2; omega
          obtain ⟨zqp1, zqp2⟩ := pl_160 (s := s) (i := i) (by assumption) h3 zqi160
          refine gp_aload_n dX9_element_32 rfl ?_
          refine gp_gr dX9_element_33 mf_9_68 rfl (by first | rfl | assumption | (simp only [*]; done)) (by first | rfl | assumption | (simp only [*]; done)) ?_
          refine gp_pu (st' := .int (160) :: _) dX9_element_36 rfl ?_
          refine gp_iload_n dX9_element_39 rfl ?_
          refine gp_pu (st' := .int _ :: _) dX9_element_40 rfl ?_
          refine gp_iload_n dX9_element_41 rfl ?_
          refine gp_pu (st' := .int _ :: _) dX9_element_42 rfl ?_
          refine gp_lal dX9_element_43 (by first | rfl | assumption | (simp only [*]; done)) (by first | rfl | assumption | (simp only [*]; done)) ?_
          refine gp_goto (t := 48) dX9_element_44 (by decide) ?_
          refine gp_lret dX9_element_48 rfl ?_
          first | (refine pX.mk (congrArg some (congrArg Value.long ?zqa)) hs; (case zqa => ((simp [q_el, *]; done)))) | (refine pX.mk (congrArg some (congrArg Value.long ?zqa)) hs; (case zqa => ((simp only [q_el, zqp2]; simp [*]; done))))

theorem eq_element (s i : Int32) : eqc 63 136 [.int s, .int i] := by
  refine eqc_q0 fun I L hR => ?_
  obtain ⟨N, S, hb, hS, hL, hK, hT, hW, hE⟩ := hR
  exact ⟨_, cl_element 37 hb hS hL, fun C J hs => ml_element 38 hb.1 hs hS⟩
end P63
