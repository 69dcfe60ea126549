/-! PUBLIC METHODS: summer -/
section P98p
variable {I C J K : pI} {L : pL} {N S : Nat}

set_option maxHeartbeats 400000 in
theorem cl_summer (d : Nat) (hb : bR I N S) {n c : Int32} : cP (d + 6) 93 [.ref 0, .int n, .int c] (mm_sh, mm_R, I, L) (pX (some (.int (vq (w_su N n c) (y_sm N c n.toNatClampNeg I 0).1))) (lL (w_su N n c) L L) (sc (uC (w_su N n c) (mg (y_sm N c n.toNatClampNeg I 0).2 I) I))) := by
  have hs := sc.rf I
  have e11 : I 1 1 = nI N := hb.c11 hs
  have e13 : I 1 3 = nI S := hb.c13 hs
  refine cP.of_gP (d := d + 5) me_93 ⟨Nat.le_of_ble_eq_true rfl, rfl⟩ ?_
  show gP mm_cs0 _ _ _ _ _ _ [some (.ref _), some (.int _), some (.int _), none, none] [] _ _
  refine gp_aload_n dX8_summer_0 rfl ?_
  refine gp_gr dX8_summer_1 mf_8_10 rfl (by first | rfl | assumption | (simp only [*]; done)) (by first | rfl | assumption | (simp only [*]; done)) ?_
  refine gp_iload_n dX8_summer_4 rfl ?_
  refine gp_call (kind := 1) (args := [.ref _, .int _]) (rest := _) dX8_summer_5 (Or.inr (Or.inl ⟨rfl, rfl⟩)) mk_8_126 (by decide) me_3 rfl rfl rfl rfl rfl (mm_rc_of (by first | rfl | assumption | (simp only [*]; done))) (ok_X1_hasChild _ _ _ _ rfl _) rfl ?_
  refine gp_ifc (t := 17) dX8_summer_8 (by decide) c1_ne (fun h1 => ?_) (fun h1 => ?_)
  · (try simp only [bi_0, bi_1, Classical.not_not, e11, e13] at h1)
    refine gp_iload_n dX8_summer_17 rfl ?_
    refine gp_pu (st' := .int (1) :: _) dX8_summer_18 rfl ?_
    refine gp_icc (t := 28) dX8_summer_19 (by decide) c2_lt (fun h2 => ?_) (fun h2 => ?_)
    · have h2' := Int32.not_le.mpr h2
      (try simp only [bi_0, bi_1, Classical.not_not, e11, e13] at h2)
      refine gp_aload_n dX8_summer_28 rfl ?_
      refine gp_pu (st' := .int (-6) :: _) dX8_summer_29 rfl ?_
      refine gp_call (kind := 1) (args := [.ref _, .int _]) (rest := _) dX8_summer_31 (Or.inr (Or.inl ⟨rfl, rfl⟩)) mk_8_79 (by decide) me_100 rfl rfl rfl rfl rfl (mm_rc_of (by first | rfl | assumption | (simp only [*]; done))) (ok_X8_refuse _ _ _ _) rfl ?_
      refine gp_iret dX8_summer_34 rfl ?_
      first | (refine uNo ?zqa ?zqc; (case zqa => (first | ((simp [w_su, *]; done)) | (exfalso; first | contradiction | (simp_all; done)))); (case zqc => (unfold isW; decide)))
    · have h2' := Int32.not_lt.mp h2
      (try simp only [bi_0, bi_1, Classical.not_not, e11, e13] at h2)
      refine gp_iload_n dX8_summer_22 rfl ?_
      refine gp_pu (st' := .int (30) :: _) dX8_summer_23 rfl ?_
      refine gp_icc (t := 35) dX8_summer_25 (by decide) c2_le (fun h3 => ?_) (fun h3 => ?_)
      · have h3' := Int32.not_lt.mpr h3
        (try simp only [bi_0, bi_1, Classical.not_not, e11, e13] at h3)
        refine gp_pu (st' := .int (0) :: _) dX8_summer_35 rfl ?_
        refine gp_istore_n (ls' := [some (.ref _), some (.int _), some (.int _), some (.int _), none]) dX8_summer_36 rfl (Nat.le_of_ble_eq_true rfl) ?_
        refine gp_pu (st' := .int (0) :: _) dX8_summer_37 rfl ?_
        refine gp_istore (ls' := [some (.ref _), some (.int _), some (.int _), some (.int _), some (.int _)]) dX8_summer_38 rfl (Nat.le_of_ble_eq_true rfl) ?_
        (have hw : w_su N n c = 0 := by first | (simp [w_su, *]; done) | (simp_all [w_su]; done)
         obtain ⟨zc, zn⟩ := w_su_0 hw
         obtain ⟨zn1, zn2⟩ := su_n zn
         have zN : 0 < N := by have := (hb.cl zc).1; omega
         have e := lp_csum d (c := c) (L := L) (I := I) zn2 zN n.toNatClampNeg 0 I I 0 (by omega) hb (by rw [mg_I]; exact sc.rf I)
         rw [← zn1] at e
         exact e.mono (fun r M q => by rw [hw]; exact q))
      · have h3' := Int32.not_le.mp h3
        (try simp only [bi_0, bi_1, Classical.not_not, e11, e13] at h3)
        refine gp_aload_n dX8_summer_28 rfl ?_
        refine gp_pu (st' := .int (-6) :: _) dX8_summer_29 rfl ?_
        refine gp_call (kind := 1) (args := [.ref _, .int _]) (rest := _) dX8_summer_31 (Or.inr (Or.inl ⟨rfl, rfl⟩)) mk_8_79 (by decide) me_100 rfl rfl rfl rfl rfl (mm_rc_of (by first | rfl | assumption | (simp only [*]; done))) (ok_X8_refuse _ _ _ _) rfl ?_
        refine gp_iret dX8_summer_34 rfl ?_
        first | (refine uNo ?zqa ?zqc; (case zqa => (first | ((simp [w_su, *]; done)) | (exfalso; first | contradiction | (simp_all; done)))); (case zqc => (unfold isW; decide)))
  · (try simp only [bi_0, bi_1, Classical.not_not, e11, e13] at h1)
    refine gp_aload_n dX8_summer_11 rfl ?_
    refine gp_pu (st' := .int (-1) :: _) dX8_summer_12 rfl ?_
    refine gp_call (kind := 1) (args := [.ref _, .int _]) (rest := _) dX8_summer_13 (Or.inr (Or.inl ⟨rfl, rfl⟩)) mk_8_79 (by decide) me_100 rfl rfl rfl rfl rfl (mm_rc_of (by first | rfl | assumption | (simp only [*]; done))) (ok_X8_refuse _ _ _ _) rfl ?_
    refine gp_iret dX8_summer_16 rfl ?_
    first | (refine uNo ?zqa ?zqc; (case zqa => (first | ((simp [w_su, *]; done)) | (exfalso; first | contradiction | (simp_all; done)))); (case zqc => (unfold isW; decide)))

set_option maxHeartbeats 400000 in
theorem ml_summer (d : Nat) (v : vN I N S) (hs : mR I C J) {n c : Int32} (hb : bR I N S) : cP (d + 9) 210 [.ref 108, .int n, .int c] (mm_sh, mm_R, J, L) (pX (some (.int (vq (w_su N n c) (y_sm N c n.toNatClampNeg I 0).1))) (lL (w_su N n c) L L) (mR (uM (w_su N n c) (y_sm N c n.toNatClampNeg I 0).2 I) C)) := by
  have m0 : J 108 0 = nI N := (hs.r (by decide)).trans v.2.2.1
  have m1 : J 108 1 = nI S := (hs.r (by decide)).trans v.2.2.2.1
  refine cP.of_gP (d := d + 8) me_210 ⟨Nat.le_of_ble_eq_true rfl, rfl⟩ ?_
  show gP mm_cs0 _ _ _ _ _ _ [some (.ref _), some (.int _), some (.int _), none, none] [] _ _
  refine gp_aload_n dX9_summer_0 rfl ?_
  refine gp_iload_n dX9_summer_1 rfl ?_
  refine gp_call (kind := 1) (args := [.ref _, .int _]) (rest := _) dX9_summer_2 (Or.inr (Or.inl ⟨rfl, rfl⟩)) mk_9_131 (by decide) me_130 rfl rfl rfl rfl rfl (mm_rc_of (by first | rfl | assumption | (simp only [*]; done))) (ok_X9_isChild _ _ _ _) rfl ?_
  refine gp_ifc (t := 14) dX9_summer_5 (by decide) c1_ne (fun h1 => ?_) (fun h1 => ?_)
  · (try simp only [bi_0, bi_1, Classical.not_not, m0, m1] at h1)
    refine gp_iload_n dX9_summer_14 rfl ?_
    refine gp_pu (st' := .int (1) :: _) dX9_summer_15 rfl ?_
    refine gp_icc (t := 25) dX9_summer_16 (by decide) c2_lt (fun h2 => ?_) (fun h2 => ?_)
    · have h2' := Int32.not_le.mpr h2
      (try simp only [bi_0, bi_1, Classical.not_not, m0, m1] at h2)
      refine gp_aload_n dX9_summer_25 rfl ?_
      refine gp_pu (st' := .int (-6) :: _) dX9_summer_26 rfl ?_
      refine gp_call (kind := 1) (args := [.ref _, .int _]) (rest := _) dX9_summer_28 (Or.inr (Or.inl ⟨rfl, rfl⟩)) mk_9_127 (by decide) me_127 rfl rfl rfl rfl rfl (mm_rc_of (by first | rfl | assumption | (simp only [*]; done))) (ok_X9_no _ _ _ _ (by decide)) rfl ?_
      refine gp_iret dX9_summer_31 rfl ?_
      first | (refine uMo ?zqa ?zqc hs; (case zqa => (first | ((simp [w_su, *]; done)) | (exfalso; first | contradiction | (simp_all; done)))); (case zqc => (unfold isW; decide)))
    · have h2' := Int32.not_lt.mp h2
      (try simp only [bi_0, bi_1, Classical.not_not, m0, m1] at h2)
      refine gp_iload_n dX9_summer_19 rfl ?_
      refine gp_pu (st' := .int (30) :: _) dX9_summer_20 rfl ?_
      refine gp_icc (t := 32) dX9_summer_22 (by decide) c2_le (fun h3 => ?_) (fun h3 => ?_)
      · have h3' := Int32.not_lt.mpr h3
        (try simp only [bi_0, bi_1, Classical.not_not, m0, m1] at h3)
        refine gp_pu (st' := .int (0) :: _) dX9_summer_32 rfl ?_
        refine gp_istore_n (ls' := [some (.ref _), some (.int _), some (.int _), some (.int _), none]) dX9_summer_33 rfl (Nat.le_of_ble_eq_true rfl) ?_
        refine gp_pu (st' := .int (0) :: _) dX9_summer_34 rfl ?_
        refine gp_istore (ls' := [some (.ref _), some (.int _), some (.int _), some (.int _), some (.int _)]) dX9_summer_35 rfl (Nat.le_of_ble_eq_true rfl) ?_
        (have hw : w_su N n c = 0 := by first | (simp [w_su, *]; done) | (simp_all [w_su]; done)
         obtain ⟨zc, zn⟩ := w_su_0 hw
         obtain ⟨zn1, zn2⟩ := su_n zn
         have e := lp_msum d (c := c) (L := L) zn2 n.toNatClampNeg 0 I J 0 (by omega) hb hs
         rw [← zn1] at e
         exact e.mono (fun r M q => by rw [hw]; exact q))
      · have h3' := Int32.not_le.mp h3
        (try simp only [bi_0, bi_1, Classical.not_not, m0, m1] at h3)
        refine gp_aload_n dX9_summer_25 rfl ?_
        refine gp_pu (st' := .int (-6) :: _) dX9_summer_26 rfl ?_
        refine gp_call (kind := 1) (args := [.ref _, .int _]) (rest := _) dX9_summer_28 (Or.inr (Or.inl ⟨rfl, rfl⟩)) mk_9_127 (by decide) me_127 rfl rfl rfl rfl rfl (mm_rc_of (by first | rfl | assumption | (simp only [*]; done))) (ok_X9_no _ _ _ _ (by decide)) rfl ?_
        refine gp_iret dX9_summer_31 rfl ?_
        first | (refine uMo ?zqa ?zqc hs; (case zqa => (first | ((simp [w_su, *]; done)) | (exfalso; first | contradiction | (simp_all; done)))); (case zqc => (unfold isW; decide)))
  · (try simp only [bi_0, bi_1, Classical.not_not, m0, m1] at h1)
    refine gp_aload_n dX9_summer_8 rfl ?_
    refine gp_pu (st' := .int (-1) :: _) dX9_summer_9 rfl ?_
    refine gp_call (kind := 1) (args := [.ref _, .int _]) (rest := _) dX9_summer_10 (Or.inr (Or.inl ⟨rfl, rfl⟩)) mk_9_127 (by decide) me_127 rfl rfl rfl rfl rfl (mm_rc_of (by first | rfl | assumption | (simp only [*]; done))) (ok_X9_no _ _ _ _ (by decide)) rfl ?_
    refine gp_iret dX9_summer_13 rfl ?_
    first | (refine uMo ?zqa ?zqc hs; (case zqa => (first | ((simp [w_su, *]; done)) | (exfalso; first | contradiction | (simp_all; done)))); (case zqc => (unfold isW; decide)))

theorem eq_summer (n c : Int32) : eqc 93 210 [.int n, .int c] := by
  refine eqc_u fun I L hR => ?_
  have hR0 := hR
  obtain ⟨N, S, hb, hS, hL, hK, hT, hW, hE⟩ := hR
  refine ⟨_, w_su N n c, mg (y_sm N c n.toNatClampNeg I 0).2 I, (y_sm N c n.toNatClampNeg I 0).2, (fun L => L), (fun L => L), w_su_w N n c, fun hw => ?_, cl_summer 34 hb, fun C J K hs => ml_summer 31 hb.1 hs hb, fun hw => ?_⟩
  · exact fun k hk => mg_r _ _ hk
  · have h := (sm_all (c := c) n.toNatClampNeg I 0 hR0 hb).1
    have e : mg (mg (y_sm N c n.toNatClampNeg I 0).2 I) (y_sm N c n.toNatClampNeg I 0).2 = (y_sm N c n.toNatClampNeg I 0).2 := by
      funext k
      by_cases q : k < 108
      · rw [mg_c _ _ q, mg_c _ _ q]
      · rw [mg_r _ _ (by omega)]
    rw [e]
    exact h
end P98p
