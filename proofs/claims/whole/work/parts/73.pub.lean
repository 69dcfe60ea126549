/-! PUBLIC METHODS: legs -/
section P73
variable {I C J : pI} {L : pL} {N S : Nat}

theorem mm_u_uu (I : pI) (k j : Nat) (x y : Int32) : mm_u (mm_u I k j x) k j y = mm_u I k j y := by
  funext a b
  rw [mm_u_i, mm_u_i, mm_u_i]
  by_cases h : a = k ∧ b = j
  · rw [if_pos h, if_pos h]
  · rw [if_neg h, if_neg h, if_neg h]
theorem mm_u_id (I : pI) (k j : Nat) : mm_u I k j (I k j) = I := by
  funext a b
  rw [mm_u_i]
  by_cases h : a = k ∧ b = j
  · rw [if_pos h, h.1, h.2]
  · rw [if_neg h]
theorem tq_112 (c : Nat) (x : Int32) : tq (mm_u I 112 c x) = tq I := by
  funext κ a l k ah rl mo
  unfold tq q_sl q_ho
  simp only [mm_u_o _ _ _ _ (show (108 : Nat) ≠ 112 by decide), mm_u_o _ _ _ _ (show (116 : Nat) ≠ 112 by decide), mm_u_o _ _ _ _ (show (117 : Nat) ≠ 112 by decide)]
theorem tC_112 (c : Nat) (l : Nat) : tC (mm_u I 112 c (nI l)) c = tG I c l := by
  unfold tC tG
  rw [tq_112, mm_u_s, mm_u_o _ _ _ _ (by decide), mm_u_o _ _ _ _ (by decide), mm_u_o _ _ _ _ (by decide), mm_u_o _ _ _ _ (by decide), mm_u_o _ _ _ _ (by decide)]
theorem vN_112 (v : vN I N S) (c : Nat) {l : Nat} (hl : l ≤ 9) : vN (mm_u I 112 c (nI l)) N S := v.ch (j := 2) (by decide) ⟨fun z => absurd z (by decide), fun z => absurd z (by decide), fun _ => nI_wi (a := 0) (b := 9) (by omega) hl (by omega), fun z => absurd z (by decide), fun z => absurd z (by decide)⟩
theorem mR_112 {c : Nat} {x : Int32} (h : mR (mm_u I 112 c x) C J) (y : Int32) : mR (mm_u I 112 c y) C (mm_u J 112 c y) := by
  have := h.uu (k := 112) (j := c) (v := y) (by decide)
  rw [mm_u_uu] at this
  exact this
theorem mR_112b {c : Nat} {x : Int32} (h : mR (mm_u I 112 c x) C J) : mR I C (mm_u J 112 c (I 112 c)) := by
  have := mR_112 h (I 112 c)
  rw [mm_u_id] at this
  exact this

set_option maxHeartbeats 400000 in
theorem dn_mlegs (d : Nat) (v : vN I N S) {c : Int32} (hc : 0 ≤ c ∧ c < nI N) {x y z k : Int32} (hsJ : mR (mm_u I 112 c.toNatClampNeg z) C J) (hne : ¬ y = -1) : gP mm_cs0 (d + 7) 9 false (some .int) cX9_legs 38 [some (.ref 108), some (.int c), some (.int x), some (.int (I 112 c.toNatClampNeg)), some (.int y), some (.int k)] [] (mm_sh, mm_R, J, L) (pX (some (.int y)) L (mR I C)) := by
  have hc8 := v.in8 hc
  refine gp_iload dX9_legs_38 rfl ?_
  refine gp_pu (st' := .int (10) :: _) dX9_legs_40 rfl ?_
  refine gp_icc (t := 78) dX9_legs_42 (by decide) c2_ge (fun h1 => ?_) (fun h1 => ?_)
  · have h1' := Int32.not_lt.mpr h1
    refine gp_aload_n dX9_legs_78 rfl ?_
    refine gp_gr dX9_legs_79 mf_9_38 rfl (by first | rfl | assumption | (simp only [*]; done)) (by first | rfl | assumption | (simp only [*]; done)) ?_
    refine gp_iload_n dX9_legs_82 rfl ?_
    refine gp_iload_n dX9_legs_83 rfl ?_
    refine gp_ias dX9_legs_84 (by first | rfl | assumption | (simp only [*]; done)) (by first | rfl | assumption | (simp only [*]; done)) ?_
    refine gp_iload dX9_legs_85 rfl ?_
    refine gp_iret dX9_legs_87 rfl ?_
    exact pX.mk rfl (mR_112b hsJ)
  · have h1' := Int32.not_le.mp h1
    refine gp_iload dX9_legs_45 rfl ?_
    refine gp_pu (st' := .int (-1) :: _) dX9_legs_47 rfl ?_
    refine gp_icc (t := 78) dX9_legs_48 (by decide) c2_ne (fun h2 => ?_) (fun h2 => ?_)
    · refine gp_aload_n dX9_legs_78 rfl ?_
      refine gp_gr dX9_legs_79 mf_9_38 rfl (by first | rfl | assumption | (simp only [*]; done)) (by first | rfl | assumption | (simp only [*]; done)) ?_
      refine gp_iload_n dX9_legs_82 rfl ?_
      refine gp_iload_n dX9_legs_83 rfl ?_
      refine gp_ias dX9_legs_84 (by first | rfl | assumption | (simp only [*]; done)) (by first | rfl | assumption | (simp only [*]; done)) ?_
      refine gp_iload dX9_legs_85 rfl ?_
      refine gp_iret dX9_legs_87 rfl ?_
      exact pX.mk rfl (mR_112b hsJ)
    · exact absurd (Classical.not_not.mp h2) hne

set_option maxHeartbeats 400000 in
theorem lp_mlegs (d : Nat) (v : vN I N S) {c : Int32} (hc : 0 ≤ c ∧ c < nI N) {x : Int32} : ∀ (n i : Nat) (z : Int32) (J : pI), i + n = 10 → mR (mm_u I 112 c.toNatClampNeg z) C J → gP mm_cs0 (d + 7) 9 false (some .int) cX9_legs 38 [some (.ref 108), some (.int c), some (.int x), some (.int (I 112 c.toNatClampNeg)), some (.int (-1)), some (.int (nI i))] [] (mm_sh, mm_R, J, L) (pX (some (.int (y_leg (tG I c.toNatClampNeg) x n i))) L (mR I C)) := by
  intro n
  induction n with
  | zero =>
    intro i z J hi hsJ
    obtain rfl : i = 10 := by omega
    have hc8 := v.in8 hc
    have hc1 : (10 : Int32) ≤ nI 10 := by decide
    refine gp_iload dX9_legs_38 rfl ?_
    refine gp_pu (st' := .int (10) :: _) dX9_legs_40 rfl ?_
    refine gp_icc (t := 78) dX9_legs_42 (by decide) c2_ge (fun h1 => ?_) (fun h1 => ?_)
    · have h1' := Int32.not_lt.mpr h1
      refine gp_aload_n dX9_legs_78 rfl ?_
      refine gp_gr dX9_legs_79 mf_9_38 rfl (by first | rfl | assumption | (simp only [*]; done)) (by first | rfl | assumption | (simp only [*]; done)) ?_
      refine gp_iload_n dX9_legs_82 rfl ?_
      refine gp_iload_n dX9_legs_83 rfl ?_
      refine gp_ias dX9_legs_84 (by first | rfl | assumption | (simp only [*]; done)) (by first | rfl | assumption | (simp only [*]; done)) ?_
      refine gp_iload dX9_legs_85 rfl ?_
      refine gp_iret dX9_legs_87 rfl ?_
      exact pX.mk rfl (mR_112b hsJ)
    · exact absurd hc1 h1
  | succ n ih =>
    intro i z J hi hsJ
    have hc8 := v.in8 hc
    have hc1 : ¬ (10 : Int32) ≤ nI i := nI_ge (b := 10) (by omega) (by omega)
    refine gp_iload dX9_legs_38 rfl ?_
    refine gp_pu (st' := .int (10) :: _) dX9_legs_40 rfl ?_
    refine gp_icc (t := 78) dX9_legs_42 (by decide) c2_ge (fun h1 => ?_) (fun h1 => ?_)
    · exact absurd h1 hc1
    · have h1' := Int32.not_le.mp h1
      refine gp_iload dX9_legs_45 rfl ?_
      refine gp_pu (st' := .int (-1) :: _) dX9_legs_47 rfl ?_
      refine gp_icc (t := 78) dX9_legs_48 (by decide) c2_ne (fun h2 => ?_) (fun h2 => ?_)
      · exact absurd rfl h2
      · refine gp_aload_n dX9_legs_51 rfl ?_
        refine gp_gr dX9_legs_52 mf_9_38 rfl (by first | rfl | assumption | (simp only [*]; done)) (by first | rfl | assumption | (simp only [*]; done)) ?_
        refine gp_iload_n dX9_legs_55 rfl ?_
        refine gp_iload dX9_legs_56 rfl ?_
        refine gp_ias dX9_legs_58 (by first | rfl | assumption | (simp only [*]; done)) (by first | rfl | assumption | (simp only [*]; done)) ?_
        refine gp_aload_n dX9_legs_59 rfl ?_
        refine gp_iload_n dX9_legs_60 rfl ?_
        refine gp_callX (kind := 1) (args := [.ref _, .int _]) (rest := _) dX9_legs_61 (Or.inr (Or.inl ⟨rfl, rfl⟩)) mk_9_293 (by decide) me_180 rfl rfl rfl rfl rfl (mm_rc_of (by first | rfl | assumption | (simp only [*]; done))) (mt_inOf _ _ (vN_112 v c.toNatClampNeg (l := i) (by omega)) (mR_112 hsJ (nI i)) hc) ?_
        intro K1 hK1
        rw [tC_112]
        refine gp_iload_n dX9_legs_64 rfl ?_
        refine gp_icc (t := 72) dX9_legs_65 (by decide) c2_gt (fun h3 => ?_) (fun h3 => ?_)
        · have h3' := Int32.not_le.mpr h3
          refine gp_iinc (v := (1)) (ls' := [some (.ref _), some (.int _), some (.int _), some (.int _), some (.int _), some (.int _)]) dX9_legs_72 rfl (by decide) rfl ?_
          refine gp_goto (t := 38) dX9_legs_75 (by decide) ?_
          (rw [nI_1]
           have ih' := ih (i + 1) _ K1 (by omega) hK1
           rw [show y_leg (tG I c.toNatClampNeg) x (n + 1) i = y_leg (tG I c.toNatClampNeg) x n (i + 1) from if_neg (Int32.not_le.mpr h3)]
           exact ih')
        · have h3' := Int32.not_lt.mp h3
          refine gp_iload dX9_legs_68 rfl ?_
          refine gp_istore (ls' := [some (.ref _), some (.int _), some (.int _), some (.int _), some (.int _), some (.int _)]) dX9_legs_70 rfl (Nat.le_of_ble_eq_true rfl) ?_
          refine gp_iinc (v := (1)) (ls' := [some (.ref _), some (.int _), some (.int _), some (.int _), some (.int _), some (.int _)]) dX9_legs_72 rfl (by decide) rfl ?_
          refine gp_goto (t := 38) dX9_legs_75 (by decide) ?_
          (rw [nI_1, show y_leg (tG I c.toNatClampNeg) x (n + 1) i = nI i from if_pos h3']
           exact dn_mlegs d v hc hK1 (fun q => absurd (nI_pos' (n := i) (by omega)) (by rw [q]; decide)))

set_option maxHeartbeats 400000 in
theorem ml_legs (d : Nat) (v : vN I N S) (hs : mR I C J) {c x : Int32} : cP (d + 8) 201 [.ref 108, .int c, .int x] (mm_sh, mm_R, J, L) (pX (some (.int (vt (w_le N c x) (y_leg (tG I c.toNatClampNeg) x 9 1)))) L (mR (rM I (w_le N c x)) C)) := by
  have m0 : J 108 0 = nI N := (hs.r (by decide)).trans v.2.2.1
  have m1 : J 108 1 = nI S := (hs.r (by decide)).trans v.2.2.2.1
  refine cP.of_gP (d := d + 7) me_201 ⟨Nat.le_of_ble_eq_true rfl, rfl⟩ ?_
  show gP mm_cs0 _ _ _ _ _ _ [some (.ref _), some (.int _), some (.int _), none, none, none] [] _ _
  refine gp_aload_n dX9_legs_0 rfl ?_
  refine gp_iload_n dX9_legs_1 rfl ?_
  refine gp_call (kind := 1) (args := [.ref _, .int _]) (rest := _) dX9_legs_2 (Or.inr (Or.inl ⟨rfl, rfl⟩)) mk_9_131 (by decide) me_130 rfl rfl rfl rfl rfl (mm_rc_of (by first | rfl | assumption | (simp only [*]; done))) (ok_X9_isChild _ _ _ _) rfl ?_
  refine gp_ifc (t := 14) dX9_legs_5 (by decide) c1_ne (fun h1 => ?_) (fun h1 => ?_)
  · (try simp only [bi_0, bi_1, Classical.not_not, Int32.not_le, m0, m1] at h1)
    refine gp_iload_n dX9_legs_14 rfl ?_
    refine gp_ifc (t := 25) dX9_legs_15 (by decide) c1_ge (fun h2 => ?_) (fun h2 => ?_)
    · have h2' := Int32.not_lt.mpr h2
      (try simp only [bi_0, bi_1, Classical.not_not, Int32.not_le, m0, m1] at h2)
      have zqm1 := v.in8 (c := c) (by assumption)
      refine gp_aload_n dX9_legs_25 rfl ?_
      refine gp_gr dX9_legs_26 mf_9_38 rfl (by first | rfl | assumption | (simp only [*]; done)) (by first | rfl | assumption | (simp only [*]; done)) ?_
      refine gp_iload_n dX9_legs_29 rfl ?_
      refine gp_ialv dX9_legs_30 rfl (by first | rfl | assumption | (simp only [*]; done)) (by first | rfl | assumption | (simp only [*]; done)) (by first | exact hs.1 _ _ rfl | exact rfl) ?_
      refine gp_istore_n (ls' := [some (.ref _), some (.int _), some (.int _), some (.int _), none, none]) dX9_legs_31 rfl (Nat.le_of_ble_eq_true rfl) ?_
      refine gp_pu (st' := .int (-1) :: _) dX9_legs_32 rfl ?_
      refine gp_istore (ls' := [some (.ref _), some (.int _), some (.int _), some (.int _), some (.int _), none]) dX9_legs_33 rfl (Nat.le_of_ble_eq_true rfl) ?_
      refine gp_pu (st' := .int (1) :: _) dX9_legs_35 rfl ?_
      refine gp_istore (ls' := [some (.ref _), some (.int _), some (.int _), some (.int _), some (.int _), some (.int _)]) dX9_legs_36 rfl (Nat.le_of_ble_eq_true rfl) ?_
      (have hw : w_le N c x = 0 := by simp [w_le, *])
      rw [hw]
      exact lp_mlegs d v (by assumption) 9 1 _ J (by omega) (by rw [mm_u_id]; exact hs)
    · have h2' := Int32.not_le.mp h2
      (try simp only [bi_0, bi_1, Classical.not_not, Int32.not_le, m0, m1] at h2)
      refine gp_aload_n dX9_legs_18 rfl ?_
      refine gp_pu (st' := .int (-6) :: _) dX9_legs_19 rfl ?_
      refine gp_call (kind := 1) (args := [.ref _, .int _]) (rest := _) dX9_legs_21 (Or.inr (Or.inl ⟨rfl, rfl⟩)) mk_9_330 (by decide) me_128 rfl rfl rfl rfl rfl (mm_rc_of (by first | rfl | assumption | (simp only [*]; done))) (ok_X9_noTen _ _ _ _ (by decide)) rfl ?_
      refine gp_iret dX9_legs_24 rfl ?_
      first | (refine mNt ?zqa ?zqc hs; (case zqa => (first | ((simp [w_le, *]; done)) | (exfalso; first | contradiction | (simp_all; done)))); (case zqc => (unfold isW; decide)))
  · (try simp only [bi_0, bi_1, Classical.not_not, Int32.not_le, m0, m1] at h1)
    refine gp_aload_n dX9_legs_8 rfl ?_
    refine gp_pu (st' := .int (-1) :: _) dX9_legs_9 rfl ?_
    refine gp_call (kind := 1) (args := [.ref _, .int _]) (rest := _) dX9_legs_10 (Or.inr (Or.inl ⟨rfl, rfl⟩)) mk_9_330 (by decide) me_128 rfl rfl rfl rfl rfl (mm_rc_of (by first | rfl | assumption | (simp only [*]; done))) (ok_X9_noTen _ _ _ _ (by decide)) rfl ?_
    refine gp_iret dX9_legs_13 rfl ?_
    first | (refine mNt ?zqa ?zqc hs; (case zqa => (first | ((simp [w_le, *]; done)) | (exfalso; first | contradiction | (simp_all; done)))); (case zqc => (unfold isW; decide)))

theorem eq_legs (c x : Int32) : eqc 87 201 [.int c, .int x] := by
  refine eqc_q fun I L hR => ?_
  obtain ⟨N, S, hb, hS, hL, hK, hT, hW, hE⟩ := hR
  refine ⟨_, w_le N c x, w_le_w N c x, cl_legs 35 hb, fun C J hs => ml_legs 32 hb.1 hs⟩
end P73
