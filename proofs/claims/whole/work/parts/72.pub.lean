/-! PUBLIC METHODS: wins (reference), legs -/
section P72
variable {I C J : pI} {L : pL} {N S : Nat}

set_option maxHeartbeats 400000 in
theorem lp_wins (d : Nat) (v : vN I N S) {w : Int32} (w0 : Nat) (hwN : w0 < N) (hw0 : x_win N (tC I) = w0) : ∀ (n i : Nat) (v5 : Option Value) (J : pI), i + n = N → mR I C J → gP mm_cs0 (d + 8) 9 false (some .int) cX9_wins 33 [some (.ref 108), some (.int w), some (.int (nI w0)), some (.int (y_nx (nI w0) (tC I) i)), some (.int (nI i)), v5] [] (mm_sh, mm_R, J, L) (pX (some (.int (q_wi I N w))) L (mR I C)) := by
  intro n
  induction n with
  | zero =>
    intro i v5 J hi hsJ
    obtain rfl : i = N := by omega
    have m0 : J 108 0 = nI i := (hsJ.r (by decide)).trans v.2.2.1
    have hN8 := v.1
    have hwi : ∀ k, k < i → wi (tC I k) 0 999 := fun k hk => tC_wi v (by omega)
    have hc1 : nI i ≤ nI i := Int32.le_refl _
    refine gp_iload dX9_wins_33 rfl ?_
    refine gp_aload_n dX9_wins_35 rfl ?_
    refine gp_giv dX9_wins_36 mf_9_117 (by decide) (by first | rfl | assumption | (simp only [*]; done)) (by first | exact m0 | exact rfl) ?_
    refine gp_icc (t := 83) dX9_wins_39 (by decide) c2_ge (fun h1 => ?_) (fun h1 => ?_)
    · have h1' := Int32.not_lt.mpr h1
      (try simp only [Classical.not_not] at h1)
      refine gp_iload_n dX9_wins_83 rfl ?_
      refine gp_ifc (t := 91) dX9_wins_84 (by decide) c1_ne (fun h2 => ?_) (fun h2 => ?_)
      · (try simp only [Classical.not_not] at h2)
        refine gp_iload_n dX9_wins_91 rfl ?_
        refine gp_pu (st' := .int (-1) :: _) dX9_wins_92 rfl ?_
        refine gp_icc (t := 100) dX9_wins_93 (by decide) c2_ne (fun h3 => ?_) (fun h3 => ?_)
        · (try simp only [Classical.not_not] at h3)
          refine gp_iload_n dX9_wins_100 rfl ?_
          refine gp_aload_n dX9_wins_101 rfl ?_
          refine gp_iload_n dX9_wins_102 rfl ?_
          refine gp_callX (kind := 1) (args := [.ref _, .int _]) (rest := _) dX9_wins_103 (Or.inr (Or.inl ⟨rfl, rfl⟩)) mk_9_293 (by decide) me_180 rfl rfl rfl rfl rfl (mm_rc_of (by first | rfl | assumption | (simp only [*]; done))) (mn_inOf _ v hsJ hwN) ?_
          intro K1 hK1
          refine gp_pu (st' := .int _ :: _) dX9_wins_106 rfl ?_
          refine gp_iret dX9_wins_107 rfl ?_
          first
           | (refine pX.mk (congrArg some (congrArg Value.int ?zqa)) hsJ; (case zqa => (simp [q_wi, h2, hw0])))
           | (refine pX.mk (congrArg some (congrArg Value.int ?zqa)) hsJ; (case zqa => (rw [q_wi, if_neg h2, hw0, ← y_x_lead (by omega) hwi, if_pos h3])))
           | (refine pX.mk (congrArg some (congrArg Value.int ?zqa)) hK1; (case zqa => (rw [q_wi, if_neg h2, hw0, ← y_x_lead (by omega) hwi, if_neg h3])))
        · (try simp only [Classical.not_not] at h3)
          refine gp_pu (st' := .int (0) :: _) dX9_wins_96 rfl ?_
          refine gp_goto (t := 107) dX9_wins_97 (by decide) ?_
          refine gp_iret dX9_wins_107 rfl ?_
          first
           | (refine pX.mk (congrArg some (congrArg Value.int ?zqa)) hsJ; (case zqa => (simp [q_wi, h2, hw0])))
           | (refine pX.mk (congrArg some (congrArg Value.int ?zqa)) hsJ; (case zqa => (rw [q_wi, if_neg h2, hw0, ← y_x_lead (by omega) hwi, if_pos h3])))
           | (refine pX.mk (congrArg some (congrArg Value.int ?zqa)) hK1; (case zqa => (rw [q_wi, if_neg h2, hw0, ← y_x_lead (by omega) hwi, if_neg h3])))
      · (try simp only [Classical.not_not] at h2)
        refine gp_iload_n dX9_wins_87 rfl ?_
        refine gp_goto (t := 107) dX9_wins_88 (by decide) ?_
        refine gp_iret dX9_wins_107 rfl ?_
        first
         | (refine pX.mk (congrArg some (congrArg Value.int ?zqa)) hsJ; (case zqa => (simp [q_wi, h2, hw0])))
         | (refine pX.mk (congrArg some (congrArg Value.int ?zqa)) hsJ; (case zqa => (rw [q_wi, if_neg h2, hw0, ← y_x_lead (by omega) hwi, if_pos h3])))
         | (refine pX.mk (congrArg some (congrArg Value.int ?zqa)) hK1; (case zqa => (rw [q_wi, if_neg h2, hw0, ← y_x_lead (by omega) hwi, if_neg h3])))
    · exact absurd hc1 h1
  | succ n ih =>
    intro i v5 J hi hsJ
    have m0 : J 108 0 = nI N := (hsJ.r (by decide)).trans v.2.2.1
    have hN8 := v.1
    have hwi : ∀ k, k < N → wi (tC I k) 0 999 := fun k hk => tC_wi v (by omega)
    have hc1 : ¬ nI N ≤ nI i := nI_ge (by omega) (by omega)
    refine gp_iload dX9_wins_33 rfl ?_
    refine gp_aload_n dX9_wins_35 rfl ?_
    refine gp_giv dX9_wins_36 mf_9_117 (by decide) (by first | rfl | assumption | (simp only [*]; done)) (by first | exact m0 | exact rfl) ?_
    refine gp_icc (t := 83) dX9_wins_39 (by decide) c2_ge (fun h1 => ?_) (fun h1 => ?_)
    · exact absurd h1 hc1
    · have h1' := Int32.not_le.mp h1
      (try simp only [Classical.not_not] at h1)
      refine gp_iload dX9_wins_42 rfl ?_
      refine gp_iload_n dX9_wins_44 rfl ?_
      refine gp_icc (t := 51) dX9_wins_45 (by decide) c2_ne (fun h2 => ?_) (fun h2 => ?_)
      · (try simp only [Classical.not_not] at h2)
        refine gp_aload_n dX9_wins_51 rfl ?_
        refine gp_iload dX9_wins_52 rfl ?_
        refine gp_callX (kind := 1) (args := [.ref _, .int _]) (rest := _) dX9_wins_54 (Or.inr (Or.inl ⟨rfl, rfl⟩)) mk_9_293 (by decide) me_180 rfl rfl rfl rfl rfl (mm_rc_of (by first | rfl | assumption | (simp only [*]; done))) (mn_inOf _ v hsJ (by omega)) ?_
        intro K1 hK1
        refine gp_istore (ls' := [some (.ref _), some (.int _), some (.int _), some (.int _), some (.int _), some (.int _)]) dX9_wins_57 rfl (Nat.le_of_ble_eq_true rfl) ?_
        refine gp_iload_n dX9_wins_59 rfl ?_
        refine gp_pu (st' := .int (-1) :: _) dX9_wins_60 rfl ?_
        refine gp_icc (t := 70) dX9_wins_61 (by decide) c2_eq (fun h3 => ?_) (fun h3 => ?_)
        · (try simp only [Classical.not_not] at h3)
          refine gp_iload dX9_wins_70 rfl ?_
          refine gp_goto (t := 76) dX9_wins_72 (by decide) ?_
          refine gp_istore_n (ls' := [some (.ref _), some (.int _), some (.int _), some (.int _), some (.int _), some (.int _)]) dX9_wins_76 rfl (Nat.le_of_ble_eq_true rfl) ?_
          refine gp_iinc (v := (1)) (ls' := [some (.ref _), some (.int _), some (.int _), some (.int _), some (.int _), some (.int _)]) dX9_wins_77 rfl (by decide) rfl ?_
          refine gp_goto (t := 33) dX9_wins_80 (by decide) ?_
          (rw [nI_1]
           have ih' := ih (i + 1) (some (.int (tC I i))) K1 (by omega) hK1
           first
           | (rw [y_nx_e h2] at ih'; exact ih')
           | (rw [y_nx_a h2 h3] at ih'; exact ih')
           | (rw [y_nx_b h2 h4'] at ih'; exact ih')
           | (rw [y_nx_c h2 h3 h4] at ih'; exact ih'))
        · (try simp only [Classical.not_not] at h3)
          refine gp_iload dX9_wins_64 rfl ?_
          refine gp_iload_n dX9_wins_66 rfl ?_
          refine gp_icc (t := 75) dX9_wins_67 (by decide) c2_ge (fun h4 => ?_) (fun h4 => ?_)
          · have h4' := Int32.not_lt.mpr h4
            (try simp only [Classical.not_not] at h4)
            refine gp_iload_n dX9_wins_75 rfl ?_
            refine gp_istore_n (ls' := [some (.ref _), some (.int _), some (.int _), some (.int _), some (.int _), some (.int _)]) dX9_wins_76 rfl (Nat.le_of_ble_eq_true rfl) ?_
            refine gp_iinc (v := (1)) (ls' := [some (.ref _), some (.int _), some (.int _), some (.int _), some (.int _), some (.int _)]) dX9_wins_77 rfl (by decide) rfl ?_
            refine gp_goto (t := 33) dX9_wins_80 (by decide) ?_
            (rw [nI_1]
             have ih' := ih (i + 1) (some (.int (tC I i))) K1 (by omega) hK1
             first
             | (rw [y_nx_e h2] at ih'; exact ih')
             | (rw [y_nx_a h2 h3] at ih'; exact ih')
             | (rw [y_nx_b h2 h4'] at ih'; exact ih')
             | (rw [y_nx_c h2 h3 h4] at ih'; exact ih'))
          · have h4' := Int32.not_le.mp h4
            (try simp only [Classical.not_not] at h4)
            refine gp_iload dX9_wins_70 rfl ?_
            refine gp_goto (t := 76) dX9_wins_72 (by decide) ?_
            refine gp_istore_n (ls' := [some (.ref _), some (.int _), some (.int _), some (.int _), some (.int _), some (.int _)]) dX9_wins_76 rfl (Nat.le_of_ble_eq_true rfl) ?_
            refine gp_iinc (v := (1)) (ls' := [some (.ref _), some (.int _), some (.int _), some (.int _), some (.int _), some (.int _)]) dX9_wins_77 rfl (by decide) rfl ?_
            refine gp_goto (t := 33) dX9_wins_80 (by decide) ?_
            (rw [nI_1]
             have ih' := ih (i + 1) (some (.int (tC I i))) K1 (by omega) hK1
             first
             | (rw [y_nx_e h2] at ih'; exact ih')
             | (rw [y_nx_a h2 h3] at ih'; exact ih')
             | (rw [y_nx_b h2 h4'] at ih'; exact ih')
             | (rw [y_nx_c h2 h3 h4] at ih'; exact ih'))
      · (try simp only [Classical.not_not] at h2)
        refine gp_goto (t := 77) dX9_wins_48 (by decide) ?_
        refine gp_iinc (v := (1)) (ls' := [some (.ref _), some (.int _), some (.int _), some (.int _), some (.int _), _]) dX9_wins_77 rfl (by decide) rfl ?_
        refine gp_goto (t := 33) dX9_wins_80 (by decide) ?_
        (rw [nI_1]
         have ih' := ih (i + 1) v5 J (by omega) hsJ
         first
         | (rw [y_nx_e h2] at ih'; exact ih')
         | (rw [y_nx_a h2 h3] at ih'; exact ih')
         | (rw [y_nx_b h2 h4'] at ih'; exact ih')
         | (rw [y_nx_c h2 h3 h4] at ih'; exact ih'))

set_option maxHeartbeats 400000 in
theorem ml_wins (d : Nat) (v : vN I N S) (hs : mR I C J) {w : Int32} : cP (d + 9) 188 [.ref 108, .int w] (mm_sh, mm_R, J, L) (pX (some (.int (vq (w_wi N w) (q_wi I N w)))) L (mR (rM I (w_wi N w)) C)) := by
  have m0 : J 108 0 = nI N := (hs.r (by decide)).trans v.2.2.1
  have m1 : J 108 1 = nI S := (hs.r (by decide)).trans v.2.2.2.1
  refine cP.of_gP (d := d + 8) me_188 ⟨Nat.le_of_ble_eq_true rfl, rfl⟩ ?_
  show gP mm_cs0 _ _ _ _ _ _ [some (.ref _), some (.int _), none, none, none, none] [] _ _
  refine gp_iload_n dX9_wins_0 rfl ?_
  refine gp_ifc (t := 16) dX9_wins_1 (by decide) c1_lt (fun h1 => ?_) (fun h1 => ?_)
  · have h1' := Int32.not_le.mpr h1
    (try simp only [bi_0, Classical.not_not, m0, m1, nI_0f v.1] at h1)
    refine gp_aload_n dX9_wins_16 rfl ?_
    refine gp_pu (st' := .int (-5) :: _) dX9_wins_17 rfl ?_
    refine gp_call (kind := 1) (args := [.ref _, .int _]) (rest := _) dX9_wins_19 (Or.inr (Or.inl ⟨rfl, rfl⟩)) mk_9_127 (by decide) me_127 rfl rfl rfl rfl rfl (mm_rc_of (by first | rfl | assumption | (simp only [*]; done))) (ok_X9_no _ _ _ _ (by decide)) rfl ?_
    refine gp_iret dX9_wins_22 rfl ?_
    first | (refine mNo ?zqa ?zqc hs; (case zqa => (first | ((simp [w_wi, *]; done)) | (exfalso; first | contradiction | (simp_all; done)))); (case zqc => (unfold isW; decide)))
  · have h1' := Int32.not_lt.mp h1
    (try simp only [bi_0, Classical.not_not, m0, m1, nI_0f v.1] at h1)
    refine gp_iload_n dX9_wins_4 rfl ?_
    refine gp_pu (st' := .int (1) :: _) dX9_wins_5 rfl ?_
    refine gp_icc (t := 16) dX9_wins_6 (by decide) c2_gt (fun h2 => ?_) (fun h2 => ?_)
    · have h2' := Int32.not_le.mpr h2
      (try simp only [bi_0, Classical.not_not, m0, m1, nI_0f v.1] at h2)
      refine gp_aload_n dX9_wins_16 rfl ?_
      refine gp_pu (st' := .int (-5) :: _) dX9_wins_17 rfl ?_
      refine gp_call (kind := 1) (args := [.ref _, .int _]) (rest := _) dX9_wins_19 (Or.inr (Or.inl ⟨rfl, rfl⟩)) mk_9_127 (by decide) me_127 rfl rfl rfl rfl rfl (mm_rc_of (by first | rfl | assumption | (simp only [*]; done))) (ok_X9_no _ _ _ _ (by decide)) rfl ?_
      refine gp_iret dX9_wins_22 rfl ?_
      first | (refine mNo ?zqa ?zqc hs; (case zqa => (first | ((simp [w_wi, *]; done)) | (exfalso; first | contradiction | (simp_all; done)))); (case zqc => (unfold isW; decide)))
    · have h2' := Int32.not_lt.mp h2
      (try simp only [bi_0, Classical.not_not, m0, m1, nI_0f v.1] at h2)
      refine gp_aload_n dX9_wins_9 rfl ?_
      refine gp_giv dX9_wins_10 mf_9_117 (by decide) (by first | rfl | assumption | (simp only [*]; done)) (by first | exact m0 | exact rfl) ?_
      refine gp_ifc (t := 23) dX9_wins_13 (by decide) c1_ne (fun h3 => ?_) (fun h3 => ?_)
      · (try simp only [bi_0, Classical.not_not, m0, m1, nI_0f v.1] at h3)
        have zqN : 0 < N := by omega
        refine gp_aload_n dX9_wins_23 rfl ?_
        refine gp_callX (kind := 1) (args := [.ref _]) (rest := _) dX9_wins_24 (Or.inr (Or.inl ⟨rfl, rfl⟩)) mk_9_296 (by decide) me_187 rfl rfl rfl rfl rfl (mm_rc_of (by first | rfl | assumption | (simp only [*]; done))) (ml_first _ v hs zqN) ?_
        intro K1 hK1
        refine gp_istore_n (ls' := [some (.ref _), some (.int _), some (.int _), none, none, none]) dX9_wins_27 rfl (Nat.le_of_ble_eq_true rfl) ?_
        refine gp_pu (st' := .int (-1) :: _) dX9_wins_28 rfl ?_
        refine gp_istore_n (ls' := [some (.ref _), some (.int _), some (.int _), some (.int _), none, none]) dX9_wins_29 rfl (Nat.le_of_ble_eq_true rfl) ?_
        refine gp_pu (st' := .int (0) :: _) dX9_wins_30 rfl ?_
        refine gp_istore (ls' := [some (.ref _), some (.int _), some (.int _), some (.int _), some (.int _), none]) dX9_wins_31 rfl (Nat.le_of_ble_eq_true rfl) ?_
        (have hw : w_wi N w = 0 := by simp [w_wi, *])
        rw [hw]
        exact lp_wins d v _ (x_win_lt N _ zqN) rfl N 0 none K1 (by omega) hK1
      · (try simp only [bi_0, Classical.not_not, m0, m1, nI_0f v.1] at h3)
        refine gp_aload_n dX9_wins_16 rfl ?_
        refine gp_pu (st' := .int (-5) :: _) dX9_wins_17 rfl ?_
        refine gp_call (kind := 1) (args := [.ref _, .int _]) (rest := _) dX9_wins_19 (Or.inr (Or.inl ⟨rfl, rfl⟩)) mk_9_127 (by decide) me_127 rfl rfl rfl rfl rfl (mm_rc_of (by first | rfl | assumption | (simp only [*]; done))) (ok_X9_no _ _ _ _ (by decide)) rfl ?_
        refine gp_iret dX9_wins_22 rfl ?_
        first | (refine mNo ?zqa ?zqc hs; (case zqa => (first | ((simp [w_wi, *]; done)) | (exfalso; first | contradiction | (simp_all; done)))); (case zqc => (unfold isW; decide)))

theorem eq_wins (w : Int32) : eqc 79 188 [.int w] := by
  refine eqc_q fun I L hR => ?_
  obtain ⟨N, S, hb, hS, hL, hK, hT, hW, hE⟩ := hR
  refine ⟨_, w_wi N w, w_wi_w N w, cl_wins 33 hb, fun C J hs => ml_wins 31 hb.1 hs⟩

def w_le (N : Nat) (c x : Int32) : Int32 := if ¬ (0 ≤ c ∧ c < nI N) then -1 else if x < 0 then -6 else 0
theorem w_le_w (N : Nat) (c x : Int32) : w_le N c x = 0 ∨ isW (w_le N c x) := by unfold w_le; (repeat' split) <;> first | exact Or.inl rfl | (right; unfold isW; decide)
/-- the first l from l on with a time of at most x -/
def y_leg (T : Nat → Int32) (x : Int32) : Nat → Nat → Int32
  | 0, _ => -1
  | n + 1, l => if T l ≤ x then nI l else y_leg T x n (l + 1)

set_option maxHeartbeats 400000 in
theorem lp_clegs (d : Nat) (hb : bR I N S) {c : Int32} (hc : 0 ≤ c ∧ c < nI N) {x : Int32} : ∀ (n i : Nat) (J : pI), i + n = 10 → sc I J → gP mm_cs0 (d + 4) 8 false (some .int) cX8_legs 31 [some (.ref 0), some (.int c), some (.int x), some (.int (nI i))] [] (mm_sh, mm_R, J, L) (pX (some (.int (y_leg (tG I c.toNatClampNeg) x n i))) L (sc I)) := by
  intro n
  induction n with
  | zero =>
    intro i J hi hsJ
    obtain rfl : i = 10 := by omega
    have hc1 : (9 : Int32) < nI 10 := by decide
    refine gp_iload_n dX8_legs_31 rfl ?_
    refine gp_pu (st' := .int (9) :: _) dX8_legs_32 rfl ?_
    refine gp_icc (t := 83) dX8_legs_34 (by decide) c2_gt (fun h1 => ?_) (fun h1 => ?_)
    · have h1' := Int32.not_le.mpr h1
      refine gp_pu (st' := .int (-1) :: _) dX8_legs_83 rfl ?_
      refine gp_iret dX8_legs_84 rfl ?_
      exact pX.mk rfl hsJ
    · exact absurd hc1 h1
  | succ n ih =>
    intro i J hi hsJ
    have hc1 : ¬ (9 : Int32) < nI i := nI_nlt (a := 9) (b := i) (by omega) (by omega)
    refine gp_iload_n dX8_legs_31 rfl ?_
    refine gp_pu (st' := .int (9) :: _) dX8_legs_32 rfl ?_
    refine gp_icc (t := 83) dX8_legs_34 (by decide) c2_gt (fun h1 => ?_) (fun h1 => ?_)
    · exact absurd h1 hc1
    · have h1' := Int32.not_lt.mp h1
      refine gp_aload_n dX8_legs_37 rfl ?_
      refine gp_gr dX8_legs_38 mf_8_31 rfl (by first | rfl | assumption | (simp only [*]; done)) (by first | rfl | assumption | (simp only [*]; done)) ?_
      refine gp_aload_n dX8_legs_41 rfl ?_
      refine gp_gr dX8_legs_42 mf_8_10 rfl (by first | rfl | assumption | (simp only [*]; done)) (by first | rfl | assumption | (simp only [*]; done)) ?_
      refine gp_iload_n dX8_legs_45 rfl ?_
      refine gp_call (kind := 1) (args := [.ref _, .ref _, .int _]) (rest := _) dX8_legs_46 (Or.inr (Or.inl ⟨rfl, rfl⟩)) mk_8_167 (by decide) me_22 rfl rfl rfl rfl rfl (mm_rc_of (by first | rfl | assumption | (simp only [*]; done))) (ok_X4_take _ J _ 62 1 _ isRa_62 isF_1 (by decide) (by rw [hb.c11 hsJ]; exact hc) (by rw [hb.c11 hsJ]; exact nI_le (b := 8) hb.n.1 (by omega)) (by rw [hb.c15 hsJ]; exact hb.rl)) rfl ?_
      refine gp_aload_n dX8_legs_49 rfl ?_
      refine gp_gr dX8_legs_50 mf_8_31 rfl (by first | rfl | assumption | (simp only [*]; done)) (by first | rfl | assumption | (simp only [*]; done)) ?_
      refine gp_gr dX8_legs_53 mf_8_175 rfl (by first | rfl | assumption | (simp only [*]; done)) (by first | rfl | assumption | (simp only [*]; done)) ?_
      refine gp_iload_n dX8_legs_56 rfl ?_
      refine gp_pi dX8_legs_57 mf_8_182 rfl rfl (by first | rfl | assumption | (simp only [*]; done)) ?_
      refine gp_aload_n dX8_legs_60 rfl ?_
      refine gp_gr dX8_legs_61 mf_8_31 rfl (by first | rfl | assumption | (simp only [*]; done)) (by first | rfl | assumption | (simp only [*]; done)) ?_
      refine gp_aload_n dX8_legs_64 rfl ?_
      refine gp_gr dX8_legs_65 mf_8_10 rfl (by first | rfl | assumption | (simp only [*]; done)) (by first | rfl | assumption | (simp only [*]; done)) ?_
      refine gp_callX (kind := 1) (args := [.ref _, .ref _]) (rest := _) dX8_legs_68 (Or.inr (Or.inl ⟨rfl, rfl⟩)) mk_8_319 (by decide) me_32 rfl rfl rfl rfl rfl (mm_rc_of (by first | rfl | assumption | (simp only [*]; done))) (ct_legT _ hb hsJ hc (by omega)) ?_
      intro K1 hK1
      refine gp_iload_n dX8_legs_71 rfl ?_
      refine gp_icc (t := 77) dX8_legs_72 (by decide) c2_gt (fun h2 => ?_) (fun h2 => ?_)
      · have h2' := Int32.not_le.mpr h2
        refine gp_iinc (v := (1)) (ls' := [some (.ref _), some (.int _), some (.int _), some (.int _)]) dX8_legs_77 rfl (by decide) rfl ?_
        refine gp_goto (t := 31) dX8_legs_80 (by decide) ?_
        (rw [nI_1]
         have ih' := ih (i + 1) K1 (by omega) hK1
         rw [show y_leg (tG I c.toNatClampNeg) x (n + 1) i = y_leg (tG I c.toNatClampNeg) x n (i + 1) from if_neg (Int32.not_le.mpr h2)]
         exact ih')
      · have h2' := Int32.not_lt.mp h2
        refine gp_iload_n dX8_legs_75 rfl ?_
        refine gp_iret dX8_legs_76 rfl ?_
        exact pX.mk (congrArg some (congrArg Value.int (if_pos h2').symm)) hK1

set_option maxHeartbeats 400000 in
theorem cl_legs (d : Nat) (hb : bR I N S) {c x : Int32} : cP (d + 5) 87 [.ref 0, .int c, .int x] (mm_sh, mm_R, I, L) (pX (some (.int (vt (w_le N c x) (y_leg (tG I c.toNatClampNeg) x 9 1)))) L (sc (rI I (w_le N c x)))) := by
  have hs := sc.rf I
  have e11 : I 1 1 = nI N := hb.c11 hs
  have e13 : I 1 3 = nI S := hb.c13 hs
  refine cP.of_gP (d := d + 4) me_87 ⟨Nat.le_of_ble_eq_true rfl, rfl⟩ ?_
  show gP mm_cs0 _ _ _ _ _ _ [some (.ref _), some (.int _), some (.int _), none] [] _ _
  refine gp_aload_n dX8_legs_0 rfl ?_
  refine gp_gr dX8_legs_1 mf_8_10 rfl (by first | rfl | assumption | (simp only [*]; done)) (by first | rfl | assumption | (simp only [*]; done)) ?_
  refine gp_iload_n dX8_legs_4 rfl ?_
  refine gp_call (kind := 1) (args := [.ref _, .int _]) (rest := _) dX8_legs_5 (Or.inr (Or.inl ⟨rfl, rfl⟩)) mk_8_126 (by decide) me_3 rfl rfl rfl rfl rfl (mm_rc_of (by first | rfl | assumption | (simp only [*]; done))) (ok_X1_hasChild _ _ _ _ rfl _) rfl ?_
  refine gp_ifc (t := 18) dX8_legs_8 (by decide) c1_ne (fun h1 => ?_) (fun h1 => ?_)
  · (try simp only [bi_0, bi_1, Classical.not_not, Int32.not_le, e11, e13] at h1)
    refine gp_iload_n dX8_legs_18 rfl ?_
    refine gp_ifc (t := 29) dX8_legs_19 (by decide) c1_ge (fun h2 => ?_) (fun h2 => ?_)
    · have h2' := Int32.not_lt.mpr h2
      (try simp only [bi_0, bi_1, Classical.not_not, Int32.not_le, e11, e13] at h2)
      refine gp_pu (st' := .int (1) :: _) dX8_legs_29 rfl ?_
      refine gp_istore_n (ls' := [some (.ref _), some (.int _), some (.int _), some (.int _)]) dX8_legs_30 rfl (Nat.le_of_ble_eq_true rfl) ?_
      (have hw : w_le N c x = 0 := by simp [w_le, *])
      rw [hw]
      exact lp_clegs d hb (by assumption) 9 1 I (by omega) hs
    · have h2' := Int32.not_le.mp h2
      (try simp only [bi_0, bi_1, Classical.not_not, Int32.not_le, e11, e13] at h2)
      refine gp_aload_n dX8_legs_22 rfl ?_
      refine gp_pu (st' := .int (-16) :: _) dX8_legs_23 rfl ?_
      refine gp_call (kind := 1) (args := [.ref _, .int _]) (rest := _) dX8_legs_25 (Or.inr (Or.inl ⟨rfl, rfl⟩)) mk_8_79 (by decide) me_100 rfl rfl rfl rfl rfl (mm_rc_of (by first | rfl | assumption | (simp only [*]; done))) (ok_X8_refuse _ _ _ _) rfl ?_
      refine gp_iret dX8_legs_28 rfl ?_
      first | (refine cNt (n := (-1)) ?zqa ?zqc ?zqd; (case zqd => decide); (case zqa => (first | ((simp [w_le, *]; done)) | (exfalso; first | contradiction | (simp_all; done)))); (case zqc => (unfold isW; decide))) | (refine cNt (n := (-6)) ?zqa ?zqc ?zqd; (case zqd => decide); (case zqa => (first | ((simp [w_le, *]; done)) | (exfalso; first | contradiction | (simp_all; done)))); (case zqc => (unfold isW; decide)))
  · (try simp only [bi_0, bi_1, Classical.not_not, Int32.not_le, e11, e13] at h1)
    refine gp_aload_n dX8_legs_11 rfl ?_
    refine gp_pu (st' := .int (-11) :: _) dX8_legs_12 rfl ?_
    refine gp_call (kind := 1) (args := [.ref _, .int _]) (rest := _) dX8_legs_14 (Or.inr (Or.inl ⟨rfl, rfl⟩)) mk_8_79 (by decide) me_100 rfl rfl rfl rfl rfl (mm_rc_of (by first | rfl | assumption | (simp only [*]; done))) (ok_X8_refuse _ _ _ _) rfl ?_
    refine gp_iret dX8_legs_17 rfl ?_
    first | (refine cNt (n := (-1)) ?zqa ?zqc ?zqd; (case zqd => decide); (case zqa => (first | ((simp [w_le, *]; done)) | (exfalso; first | contradiction | (simp_all; done)))); (case zqc => (unfold isW; decide))) | (refine cNt (n := (-6)) ?zqa ?zqc ?zqd; (case zqd => decide); (case zqa => (first | ((simp [w_le, *]; done)) | (exfalso; first | contradiction | (simp_all; done)))); (case zqc => (unfold isW; decide)))
end P72
