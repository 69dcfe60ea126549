/-! PUBLIC METHODS: restore -/
section P88
variable {I C J : pI} {L : pL} {N S : Nat}

set_option maxHeartbeats 400000 in
theorem lp_crs (d : Nat) (J : pI) (N : Nat) (hJ : J 1 1 = nI N) : ∀ (n i : Nat) , i + n = 8 → gP mm_cs0 (d + 2) 8 false (some .int) cX8_restore 27 [some (.ref 0), some (.int (nI i))] [] (mm_sh, mm_R, (rsC J N i), L) (pX (some (.int (nI N))) L (fun K => K = rsC J N 8)) := by
  intro n
  induction n with
  | zero =>
    intro i  hi
    obtain rfl : i = 8 := by omega
    have hc1 : (8 : Int32) ≤ nI 8 := by decide
    have zq1 : rsC J N 8 1 1 = nI N := by rw [rsC_o _ _ _ (by omega)]; exact hJ
    refine gp_iload_n dX8_restore_27 rfl ?_
    refine gp_pu (st' := .int (8) :: _) dX8_restore_28 rfl ?_
    refine gp_icc (t := 80) dX8_restore_30 (by decide) c2_ge (fun h1 => ?_) (fun h1 => ?_)
    · have h1' := Int32.not_lt.mpr h1
      refine gp_aload_n dX8_restore_80 rfl ?_
      refine gp_gr dX8_restore_81 mf_8_10 rfl (by first | rfl | assumption | (simp only [*]; done)) (by first | rfl | assumption | (simp only [*]; done)) ?_
      refine gp_giv dX8_restore_84 mf_8_154 (by decide) (by first | rfl | assumption | (simp only [*]; done)) (by first | exact zq1 | exact rfl) ?_
      refine gp_iret dX8_restore_87 rfl ?_
      exact pX.mk rfl rfl
    · exact absurd hc1 h1
  | succ n ih =>
    intro i  hi
    have hc1 : ¬ (8 : Int32) ≤ nI i := nI_ge (b := 8) (by omega) (by omega)
    have zq1 : rsC J N i 1 1 = nI N := by rw [rsC_o _ _ _ (by omega)]; exact hJ
    obtain ⟨zqs1, zqs2, zqs3, zqs4, zqs5⟩ := sh_s (s := nI i) ⟨nI_pos' (by omega), nI_lt (b := 8) (by omega) (by omega)⟩
    rw [nI_clamp (by omega)] at zqs2 zqs3 zqs4 zqs5
    have zqsr : mm_R 61 (nI i).toNatClampNeg = some (76 + 2 * i) := by rw [nI_clamp (by omega)]; exact zqs2
    have zqe : rsC J N i (76 + 2 * i) = J (76 + 2 * i) := rsC_o _ _ _ (by omega)
    have zqh : rsC J N i (76 + 2 * i) 0 = J (76 + 2 * i) 0 := by rw [zqe]
    refine gp_iload_n dX8_restore_27 rfl ?_
    refine gp_pu (st' := .int (8) :: _) dX8_restore_28 rfl ?_
    refine gp_icc (t := 80) dX8_restore_30 (by decide) c2_ge (fun h1 => ?_) (fun h1 => ?_)
    · exact absurd h1 hc1
    · have h1' := Int32.not_le.mp h1
      (try simp only [bi_0, Classical.not_not, zq1, zqe] at h1)
      refine gp_aload_n dX8_restore_33 rfl ?_
      refine gp_gr dX8_restore_34 mf_8_24 rfl (by first | rfl | assumption | (simp only [*]; done)) (by first | rfl | assumption | (simp only [*]; done)) ?_
      refine gp_iload_n dX8_restore_37 rfl ?_
      refine gp_aal dX8_restore_38 (by first | rfl | assumption | (simp only [*]; done)) (by decide) (by first | rfl | assumption | (simp only [*]; done)) (by first | rfl | assumption | (simp only [*]; done)) ?_
      refine gp_call (kind := 1) (args := [.ref _]) (rest := _) dX8_restore_39 (Or.inr (Or.inl ⟨rfl, rfl⟩)) mk_8_97 (by decide) me_50 rfl rfl rfl rfl rfl (mm_rc_of (by first | rfl | assumption | (simp only [*]; done))) (ok_X7_hasChild _ _ _ _ zqs4) rfl ?_
      refine gp_ifc (t := 74) dX8_restore_42 (by decide) c1_eq (fun h2 => ?_) (fun h2 => ?_)
      · (try simp only [bi_0, Classical.not_not, zq1, zqe] at h2)
        refine gp_iinc (v := (1)) (ls' := [some (.ref _), some (.int _)]) dX8_restore_74 rfl (by decide) rfl ?_
        refine gp_goto (t := 27) dX8_restore_77 (by decide) ?_
        (rw [nI_1, rsC_f J N i (fun q => h2 q.1)]; exact ih (i + 1) (by omega))

      · (try simp only [bi_0, Classical.not_not, zq1, zqe] at h2)
        refine gp_aload_n dX8_restore_45 rfl ?_
        refine gp_gr dX8_restore_46 mf_8_10 rfl (by first | rfl | assumption | (simp only [*]; done)) (by first | rfl | assumption | (simp only [*]; done)) ?_
        refine gp_aload_n dX8_restore_49 rfl ?_
        refine gp_gr dX8_restore_50 mf_8_24 rfl (by first | rfl | assumption | (simp only [*]; done)) (by first | rfl | assumption | (simp only [*]; done)) ?_
        refine gp_iload_n dX8_restore_53 rfl ?_
        refine gp_aal dX8_restore_54 (by first | rfl | assumption | (simp only [*]; done)) (by decide) (by first | rfl | assumption | (simp only [*]; done)) (by first | rfl | assumption | (simp only [*]; done)) ?_
        refine gp_giv dX8_restore_55 mf_8_132 (by decide) (by first | rfl | assumption | (simp only [*]; done)) (by first | exact zqh | exact rfl) ?_
        refine gp_call (kind := 1) (args := [.ref _, .int _]) (rest := _) dX8_restore_58 (Or.inr (Or.inl ⟨rfl, rfl⟩)) mk_8_126 (by decide) me_3 rfl rfl rfl rfl rfl (mm_rc_of (by first | rfl | assumption | (simp only [*]; done))) (ok_X1_hasChild _ _ _ 1 rfl _) rfl ?_
        refine gp_ifc (t := 74) dX8_restore_61 (by decide) c1_ne (fun h3 => ?_) (fun h3 => ?_)
        · (try simp only [bi_0, Classical.not_not, zq1, zqe] at h3)
          refine gp_iinc (v := (1)) (ls' := [some (.ref _), some (.int _)]) dX8_restore_74 rfl (by decide) rfl ?_
          refine gp_goto (t := 27) dX8_restore_77 (by decide) ?_
          (rw [nI_1, rsC_f J N i (fun q => q.2 h3)]; exact ih (i + 1) (by omega))

        · (try simp only [bi_0, Classical.not_not, zq1, zqe] at h3)
          refine gp_aload_n dX8_restore_64 rfl ?_
          refine gp_gr dX8_restore_65 mf_8_24 rfl (by first | rfl | assumption | (simp only [*]; done)) (by first | rfl | assumption | (simp only [*]; done)) ?_
          refine gp_iload_n dX8_restore_68 rfl ?_
          refine gp_aal dX8_restore_69 (by first | rfl | assumption | (simp only [*]; done)) (by decide) (by first | rfl | assumption | (simp only [*]; done)) (by first | rfl | assumption | (simp only [*]; done)) ?_
          refine gp_pu (st' := .int (-1) :: _) dX8_restore_70 rfl ?_
          refine gp_call (kind := 1) (args := [.ref _, .int _]) (rest := _) dX8_restore_71 (Or.inr (Or.inl ⟨rfl, rfl⟩)) mk_8_128 (by decide) me_54 rfl rfl rfl rfl rfl (mm_rc_of (by first | rfl | assumption | (simp only [*]; done))) (ok_X7_holdChild _ _ _ _ zqs3 _) rfl ?_
          refine gp_iinc (v := (1)) (ls' := [some (.ref _), some (.int _)]) dX8_restore_74 rfl (by decide) rfl ?_
          refine gp_goto (t := 27) dX8_restore_77 (by decide) ?_
          (rw [nI_1, rsC_t J N i h2 h3]; exact ih (i + 1) (by omega))


def w_rs (I : pI) : Int32 := if I 108 58 = 0 then -6 else 0
theorem w_rs_w (I : pI) : w_rs I = 0 ∨ isW (w_rs I) := by unfold w_rs; (repeat' split) <;> first | exact Or.inl rfl | (right; unfold isW; decide)

set_option maxHeartbeats 400000 in
theorem cl_restore (d : Nat) (hb : bR I N S) (hK : rK I) (N1 : Nat) (hN1 : ¬ I 108 58 = 0 → I 41 1 = nI N1) (hz : I 41 5 = 0 ∨ I 41 5 = 1) : cP (d + 3) 98 [.ref 0] (mm_sh, mm_R, I, L) (pX (some (.int (vq (w_rs I) (nI N1)))) (lL (w_rs I) L L) (sc (uC (w_rs I) (rsC (bcI I 1 41) N1 8) I))) := by
  have hs := sc.rf I
  have e11 : I 1 1 = nI N := hb.c11 hs
  have e13 : I 1 3 = nI S := hb.c13 hs
  refine cP.of_gP (d := d + 2) me_98 ⟨Nat.le_of_ble_eq_true rfl, rfl⟩ ?_
  show gP mm_cs0 _ _ _ _ _ _ [some (.ref _), none] [] _ _
  refine gp_aload_n dX8_restore_0 rfl ?_
  refine gp_giv dX8_restore_1 mf_8_353 (by decide) (by first | rfl | assumption | (simp only [*]; done)) (by first | exact hK.1 | exact rfl) ?_
  refine gp_ifc (t := 14) dX8_restore_4 (by decide) c1_ne (fun h1 => ?_) (fun h1 => ?_)
  · (try simp only [Classical.not_not] at h1)
    refine gp_aload_n dX8_restore_14 rfl ?_
    refine gp_gr dX8_restore_15 mf_8_10 rfl (by first | rfl | assumption | (simp only [*]; done)) (by first | rfl | assumption | (simp only [*]; done)) ?_
    refine gp_aload_n dX8_restore_18 rfl ?_
    refine gp_gr dX8_restore_19 mf_8_19 rfl (by first | rfl | assumption | (simp only [*]; done)) (by first | rfl | assumption | (simp only [*]; done)) ?_
    refine gp_callX (kind := 1) (args := [.ref _, .ref _]) (rest := _) dX8_restore_22 (Or.inr (Or.inl ⟨rfl, rfl⟩)) mk_8_241 (by decide) me_9 rfl rfl rfl rfl rfl (mm_rc_of (by first | rfl | assumption | (simp only [*]; done))) (ct_become _ isF_1 isF_41 (by decide) hz) ?_
    intro K1 hK1
    rw [hK1]
    refine gp_pu (st' := .int (0) :: _) dX8_restore_25 rfl ?_
    refine gp_istore_n (ls' := [some (.ref _), some (.int _)]) dX8_restore_26 rfl (Nat.le_of_ble_eq_true rfl) ?_
    (have hw : w_rs I = 0 := by simp [w_rs, *]
     have h := lp_crs d (L := L) (bcI I 1 41) N1 (by rw [bcI_i, if_pos ⟨rfl, Or.inl rfl⟩]; exact hN1 h1) 8 0 (by omega)
     rw [rsC_0] at h
     rw [hw]
     refine h.mono ?_
     rintro r M ⟨rfl, K, rfl, rfl⟩
     exact uOk rfl rfl (sc.rf _))
  · (try simp only [Classical.not_not] at h1)
    refine gp_aload_n dX8_restore_7 rfl ?_
    refine gp_pu (st' := .int (-6) :: _) dX8_restore_8 rfl ?_
    refine gp_call (kind := 1) (args := [.ref _, .int _]) (rest := _) dX8_restore_10 (Or.inr (Or.inl ⟨rfl, rfl⟩)) mk_8_79 (by decide) me_100 rfl rfl rfl rfl rfl (mm_rc_of (by first | rfl | assumption | (simp only [*]; done))) (ok_X8_refuse _ _ _ _) rfl ?_
    refine gp_iret dX8_restore_13 rfl ?_
    (refine uNo ?zqa ?zqc; (case zqa => (first | ((simp [w_rs, *]; done)) | (exfalso; first | contradiction | (simp_all; done)))); (case zqc => (unfold isW; decide)))

set_option maxHeartbeats 400000 in
theorem lp_mrs (d : Nat) (J : pI) (N : Nat) (hJ : J 108 0 = nI N) : ∀ (n i : Nat) , i + n = 8 → gP mm_cs0 (d) 9 false (some .int) cX9_restore 25 [some (.ref 108), some (.int (nI i))] [] (mm_sh, mm_R, (rsM J N i), L) (pX (some (.int (nI N))) L (fun K => K = rsM J N 8)) := by
  intro n
  induction n with
  | zero =>
    intro i  hi
    obtain rfl : i = 8 := by omega
    have hc1 : (8 : Int32) ≤ nI 8 := by decide
    have zq1 : rsM J N 8 108 0 = nI N := by rw [rsM_o _ _ _ (by omega)]; exact hJ
    refine gp_iload_n dX9_restore_25 rfl ?_
    refine gp_pu (st' := .int (8) :: _) dX9_restore_26 rfl ?_
    refine gp_icc (t := 67) dX9_restore_28 (by decide) c2_ge (fun h1 => ?_) (fun h1 => ?_)
    · have h1' := Int32.not_lt.mpr h1
      refine gp_aload_n dX9_restore_67 rfl ?_
      refine gp_giv dX9_restore_68 mf_9_117 (by decide) (by first | rfl | assumption | (simp only [*]; done)) (by first | exact zq1 | exact rfl) ?_
      refine gp_iret dX9_restore_71 rfl ?_
      exact pX.mk rfl rfl
    · exact absurd hc1 h1
  | succ n ih =>
    intro i  hi
    have hc1 : ¬ (8 : Int32) ≤ nI i := nI_ge (b := 8) (by omega) (by omega)
    have zq1 : rsM J N i 108 0 = nI N := by rw [rsM_o _ _ _ (by omega)]; exact hJ
    have zq8 : mm_in (nI i) 8 = true := mm_in_8.mpr ⟨nI_pos' (by omega), nI_lt (b := 8) (by omega) (by omega)⟩
    have zqa : rsM J N i 118 (nI i).toNatClampNeg = J 118 i := by rw [nI_clamp (by omega), rsM_o _ _ _ (by omega)]
    have zqb : rsM J N i 121 (nI i).toNatClampNeg = J 121 i := by rw [nI_clamp (by omega), rsM_o _ _ _ (by omega)]
    refine gp_iload_n dX9_restore_25 rfl ?_
    refine gp_pu (st' := .int (8) :: _) dX9_restore_26 rfl ?_
    refine gp_icc (t := 67) dX9_restore_28 (by decide) c2_ge (fun h1 => ?_) (fun h1 => ?_)
    · exact absurd h1 hc1
    · have h1' := Int32.not_le.mp h1
      refine gp_aload_n dX9_restore_31 rfl ?_
      refine gp_gr dX9_restore_32 mf_9_56 rfl (by first | rfl | assumption | (simp only [*]; done)) (by first | rfl | assumption | (simp only [*]; done)) ?_
      refine gp_iload_n dX9_restore_35 rfl ?_
      refine gp_ialv dX9_restore_36 rfl (by first | rfl | assumption | (simp only [*]; done)) (by first | rfl | assumption | (simp only [*]; done)) (by first | exact zqa | exact zqb | exact zq1 | exact rfl) ?_
      refine gp_pu (st' := .int (2) :: _) dX9_restore_37 rfl ?_
      refine gp_icc (t := 61) dX9_restore_38 (by decide) c2_ne (fun h2 => ?_) (fun h2 => ?_)
      · refine gp_iinc (v := (1)) (ls' := [some (.ref _), some (.int _)]) dX9_restore_61 rfl (by decide) rfl ?_
        refine gp_goto (t := 25) dX9_restore_64 (by decide) ?_
        (rw [nI_1, rsM_f J N i (fun q => h2 q.1)]; exact ih (i + 1) (by omega))

      · refine gp_aload_n dX9_restore_41 rfl ?_
        refine gp_gr dX9_restore_42 mf_9_65 rfl (by first | rfl | assumption | (simp only [*]; done)) (by first | rfl | assumption | (simp only [*]; done)) ?_
        refine gp_iload_n dX9_restore_45 rfl ?_
        refine gp_ialv dX9_restore_46 rfl (by first | rfl | assumption | (simp only [*]; done)) (by first | rfl | assumption | (simp only [*]; done)) (by first | exact zqa | exact zqb | exact zq1 | exact rfl) ?_
        refine gp_aload_n dX9_restore_47 rfl ?_
        refine gp_giv dX9_restore_48 mf_9_117 (by decide) (by first | rfl | assumption | (simp only [*]; done)) (by first | exact zqa | exact zqb | exact zq1 | exact rfl) ?_
        refine gp_icc (t := 61) dX9_restore_51 (by decide) c2_lt (fun h3 => ?_) (fun h3 => ?_)
        · have h3' := Int32.not_le.mpr h3
          refine gp_iinc (v := (1)) (ls' := [some (.ref _), some (.int _)]) dX9_restore_61 rfl (by decide) rfl ?_
          refine gp_goto (t := 25) dX9_restore_64 (by decide) ?_
          (rw [nI_1, rsM_f J N i (fun q => absurd h3 (Int32.not_lt.mpr q.2))]; exact ih (i + 1) (by omega))

        · have h3' := Int32.not_lt.mp h3
          refine gp_aload_n dX9_restore_54 rfl ?_
          refine gp_gr dX9_restore_55 mf_9_56 rfl (by first | rfl | assumption | (simp only [*]; done)) (by first | rfl | assumption | (simp only [*]; done)) ?_
          refine gp_iload_n dX9_restore_58 rfl ?_
          refine gp_pu (st' := .int (0) :: _) dX9_restore_59 rfl ?_
          refine gp_ias dX9_restore_60 (by first | rfl | assumption | (simp only [*]; done)) (by first | rfl | assumption | (simp only [*]; done)) ?_
          refine gp_iinc (v := (1)) (ls' := [some (.ref _), some (.int _)]) dX9_restore_61 rfl (by decide) rfl ?_
          refine gp_goto (t := 25) dX9_restore_64 (by decide) ?_
          (rw [nI_clamp (by omega), nI_1, rsM_t J N i (Classical.not_not.mp h2) (Int32.not_lt.mp h3)]; exact ih (i + 1) (by omega))


theorem mR.rs (h : mR I C J) (N n : Nat) : mR (rsM I N n) C (rsM J N n) := by
  have e1 : ∀ q, J 118 q = I 118 q := fun q => h.g (by omega) (by omega) (by omega) q
  have e2 : ∀ q, J 121 q = I 121 q := fun q => h.g (by omega) (by omega) (by omega) q
  refine ⟨fun k j z => ?_, fun k hk => ?_⟩
  · unfold rsM
    simp only [e1, e2, h.1 k j z]
  · rw [← h.2 k hk]
    funext j
    exact rsM_o J N n (Or.inl (by omega))

set_option maxHeartbeats 400000 in
theorem ml_restore (d : Nat) (v : vN I N S) (hs : mR I C J) (N1 : Nat) (hN1 : ¬ I 108 58 = 0 → I 128 68 = nI N1) : cP (d + 3) 219 [.ref 108] (mm_sh, mm_R, J, L) (pX (some (.int (vq (w_rs I) (nI N1)))) (lL (w_rs I) L L) (mR (uM (w_rs I) (rsM (alB9 128 I) N1 8) I) C)) := by
  have m0 : J 108 0 = nI N := (hs.r (by decide)).trans v.2.2.1
  have m1 : J 108 1 = nI S := (hs.r (by decide)).trans v.2.2.2.1
  refine cP.of_gP (d := d + 2) me_219 ⟨Nat.le_of_ble_eq_true rfl, rfl⟩ ?_
  show gP mm_cs0 _ _ _ _ _ _ [some (.ref _), none] [] _ _
  refine gp_aload_n dX9_restore_0 rfl ?_
  refine gp_giv dX9_restore_1 mf_9_361 (by decide) (by first | rfl | assumption | (simp only [*]; done)) (by first | exact hs.1 _ _ rfl | exact rfl) ?_
  refine gp_ifc (t := 14) dX9_restore_4 (by decide) c1_ne (fun h1 => ?_) (fun h1 => ?_)
  · (try simp only [Classical.not_not] at h1)
    refine gp_aload_n dX9_restore_14 rfl ?_
    refine gp_aload_n dX9_restore_15 rfl ?_
    refine gp_gr dX9_restore_16 mf_9_87 rfl (by first | rfl | assumption | (simp only [*]; done)) (by first | rfl | assumption | (simp only [*]; done)) ?_
    refine gp_pu (st' := .int (1) :: _) dX9_restore_19 rfl ?_
    refine gp_callX (kind := 1) (args := [.ref _, .ref _, .int _]) (rest := _) dX9_restore_20 (Or.inr (Or.inl ⟨rfl, rfl⟩)) mk_9_217 (by decide) me_163 rfl rfl rfl rfl rfl (mm_rc_of (by first | rfl | assumption | (simp only [*]; done))) (all_1 _ _ (by decide) rfl) ?_
    intro K1 hK1
    rw [hK1]
    refine gp_pu (st' := .int (0) :: _) dX9_restore_23 rfl ?_
    refine gp_istore_n (ls' := [some (.ref _), some (.int _)]) dX9_restore_24 rfl (Nat.le_of_ble_eq_true rfl) ?_
    (have hw : w_rs I = 0 := by simp [w_rs, *]
     have h := lp_mrs (d + 2) (L := L) (alB9 128 J) N1 (by rw [(alB9_x 128 (by omega) J).1 108 0 (Or.inl ⟨rfl, by omega⟩)]; show J 128 68 = nI N1; rw [hs.g (by omega) (by omega) (by omega)]; exact hN1 h1) 8 0 (by omega)
     rw [rsM_0] at h
     rw [hw]
     refine h.mono ?_
     rintro r M ⟨rfl, K, rfl, rfl⟩
     exact uMk rfl rfl (hs.alB.rs N1 8))
  · (try simp only [Classical.not_not] at h1)
    refine gp_aload_n dX9_restore_7 rfl ?_
    refine gp_pu (st' := .int (-6) :: _) dX9_restore_8 rfl ?_
    refine gp_call (kind := 1) (args := [.ref _, .int _]) (rest := _) dX9_restore_10 (Or.inr (Or.inl ⟨rfl, rfl⟩)) mk_9_127 (by decide) me_127 rfl rfl rfl rfl rfl (mm_rc_of (by first | rfl | assumption | (simp only [*]; done))) (ok_X9_no _ _ _ _ (by decide)) rfl ?_
    refine gp_iret dX9_restore_13 rfl ?_
    (refine uMo ?zqa ?zqc hs; (case zqa => (first | ((simp [w_rs, *]; done)) | (exfalso; first | contradiction | (simp_all; done)))); (case zqc => (unfold isW; decide)))

set_option maxHeartbeats 400000 in
theorem cl_restore_no (d : Nat) (hb : bR I N S) (hK : rK I) (hz : I 108 58 = 0) : cP (d + 3) 98 [.ref 0] (mm_sh, mm_R, I, L) (pX (some (.int (vq (w_rs I) (nI 0)))) (lL (w_rs I) L L) (sc (uC (w_rs I) I I))) := by
  refine cP.of_gP (d := d + 2) me_98 ⟨Nat.le_of_ble_eq_true rfl, rfl⟩ ?_
  show gP mm_cs0 _ _ _ _ _ _ [some (.ref _), none] [] _ _
  refine gp_aload_n dX8_restore_0 rfl ?_
  refine gp_giv dX8_restore_1 mf_8_353 (by decide) (by first | rfl | assumption | (simp only [*]; done)) (by first | exact hK.1.trans hz | exact rfl) ?_
  refine gp_ifc (t := 14) dX8_restore_4 (by decide) c1_ne (fun h1 => ?_) (fun h1 => ?_)
  · exact absurd rfl h1
  · refine gp_aload_n dX8_restore_7 rfl ?_
    refine gp_pu (st' := .int (-6) :: _) dX8_restore_8 rfl ?_
    refine gp_call (kind := 1) (args := [.ref _, .int _]) (rest := _) dX8_restore_10 (Or.inr (Or.inl ⟨rfl, rfl⟩)) mk_8_79 (by decide) me_100 rfl rfl rfl rfl rfl (mm_rc_of (by first | rfl | assumption | (simp only [*]; done))) (ok_X8_refuse _ _ _ _) rfl ?_
    refine gp_iret dX8_restore_13 rfl ?_
    exact uNo (U := I) (q := nI 0) (if_pos hz) (by unfold isW; decide)

set_option maxHeartbeats 400000 in
theorem ml_restore_no (d : Nat) (v : vN I N S) (hs : mR I C J) (hz : I 108 58 = 0) : cP (d + 3) 219 [.ref 108] (mm_sh, mm_R, J, L) (pX (some (.int (vq (w_rs I) (nI 0)))) (lL (w_rs I) L L) (mR (uM (w_rs I) I I) C)) := by
  refine cP.of_gP (d := d + 2) me_219 ⟨Nat.le_of_ble_eq_true rfl, rfl⟩ ?_
  show gP mm_cs0 _ _ _ _ _ _ [some (.ref _), none] [] _ _
  refine gp_aload_n dX9_restore_0 rfl ?_
  refine gp_giv dX9_restore_1 mf_9_361 (by decide) (by first | rfl | assumption | (simp only [*]; done)) (by first | exact (hs.1 108 58 rfl).trans hz | exact rfl) ?_
  refine gp_ifc (t := 14) dX9_restore_4 (by decide) c1_ne (fun h1 => ?_) (fun h1 => ?_)
  · exact absurd rfl h1
  · refine gp_aload_n dX9_restore_7 rfl ?_
    refine gp_pu (st' := .int (-6) :: _) dX9_restore_8 rfl ?_
    refine gp_call (kind := 1) (args := [.ref _, .int _]) (rest := _) dX9_restore_10 (Or.inr (Or.inl ⟨rfl, rfl⟩)) mk_9_127 (by decide) me_127 rfl rfl rfl rfl rfl (mm_rc_of (by first | rfl | assumption | (simp only [*]; done))) (ok_X9_no _ _ _ _ (by decide)) rfl ?_
    refine gp_iret dX9_restore_13 rfl ?_
    exact uMo (U := I) (q := nI 0) (if_pos hz) (by unfold isW; decide) hs

theorem eq_restore : eqc 98 219 [] := by
  refine eqc_u fun I L hR => ?_
  obtain ⟨N, S, hb, hS, hL, hK, hT, hW, hE⟩ := hR
  -- the image's numbers, or what stands for them
  have hk : ∃ N1 S1, (¬ I 108 58 = 0 → vN (kI I) N1 S1 ∧ rF 41 I (kI I)) := by
    rcases hK.2 with h | ⟨h1, h2, N1, S1, h3⟩
    · exact ⟨0, 0, fun z => absurd h z⟩
    · exact ⟨N1, S1, fun _ => ⟨h3, h2⟩⟩
  obtain ⟨N1, S1, hk⟩ := hk
  by_cases hz : I 108 58 = 0
  · -- nothing was kept: both refuse
    have hw : w_rs I = -6 := if_pos hz
    refine ⟨nI 0, w_rs I, I, I, fun L => L, fun L => L, w_rs_w I, fun h => absurd (hw.symm.trans h) (by decide), ?_, fun C J K hs => ?_, fun h => absurd (hw.symm.trans h) (by decide)⟩
    · refine (cl_restore_no 37 hb hK hz).mono ?_
      rintro r M ⟨rfl, q⟩
      refine ⟨rfl, ?_⟩
      rw [hw] at q ⊢
      exact q
    · refine (ml_restore_no 37 hb.1 hs hz).mono ?_
      rintro r M ⟨rfl, q⟩
      refine ⟨rfl, ?_⟩
      rw [hw] at q ⊢
      exact q
  · obtain ⟨v1, f1⟩ := hk hz
    have hN41 : I 41 1 = nI N1 := f1.1.trans v1.2.2.1
    have h5 : I 41 5 = 0 ∨ I 41 5 = 1 := by rw [f1.2.2.1]; exact v1.2.2.2.2.2.2.2.2.1
    have hx := alB9_x 128 (by omega) I
    refine ⟨nI N1, w_rs I, rsC (bcI I 1 41) N1 8, rsM (alB9 128 I) N1 8, fun L => L, fun L => L, w_rs_w I, fun h k hk => ?_, cl_restore 37 hb hK N1 (fun _ => hN41) h5, fun C J K hs => ml_restore 37 hb.1 hs N1 (fun _ => v1.2.2.1), fun h => ?_⟩
    · funext j
      rw [rsC_o _ _ _ (by omega), bcI_o (by omega)]
    · have eC : ∀ k j, 21 ≤ k → k < 108 → ¬ (76 ≤ k ∧ k < 92) → mg (rsC (bcI I 1 41) N1 8) (rsM (alB9 128 I) N1 8) k j = I k j := fun k j h1 hk h4 => by
        rw [mg_c _ _ hk, rsC_o _ _ _ (by omega), bcI_o (by omega)]
      have eC0 : ∀ j, mg (rsC (bcI I 1 41) N1 8) (rsM (alB9 128 I) N1 8) 0 j = I 0 j := fun j => by
        rw [mg_c _ _ (by omega), rsC_o _ _ _ (by omega), bcI_o (by omega)]
      have eM : ∀ k j, 108 ≤ k → ¬ fK8 k j → k ≠ 118 → mg (rsC (bcI I 1 41) N1 8) (rsM (alB9 128 I) N1 8) k j = I k j := fun k j hk h0 h4 => by
        rw [mg_r _ _ hk, rsM_o _ _ _ (Or.inl h4), hx.2 k j h0]
      have eF : ∀ k j, fK8 k j → mg (rsC (bcI I 1 41) N1 8) (rsM (alB9 128 I) N1 8) k j = kI I k j := fun k j z => by
        rw [mg_r _ _ (by rcases z with z | z <;> omega), rsM_o _ _ _ (Or.inl (by rcases z with z | z <;> omega)), hx.1 k j z]
        rfl
      have nf : ∀ k j, (118 ≤ k ∨ k = 109) → ¬ fK8 k j := fun k j h z => by rcases z with z | z <;> omega
      have nf8 : ∀ j, 9 ≤ j → ¬ fK8 108 j := fun j h z => by rcases z with z | z <;> omega
      have hb2 : bR (mg (rsC (bcI I 1 41) N1 8) (rsM (alB9 128 I) N1 8)) N1 S1 := by
        refine ⟨v1.cg8 eF, (rF.bc (f := 1) f1).cg8 (fun k a b j => ?_) eF⟩
        rw [mg_c _ _ (by omega), rsC_o _ _ _ (by omega)]
      refine ⟨N1, S1, hb2, fun s hs => ?_, hL, hK.cg (eC0 _) (eM _ _ (by omega) (nf8 58 (by omega)) (by omega)) (fun k a b j => eC k j (by omega) (by omega) (by omega)) (fun j => eM _ j (by omega) (nf _ _ (by omega)) (by omega)), hT.cg (eC _ _ (by omega) (by omega) (by omega)) (eM _ _ (by omega) (nf8 57 (by omega)) (by omega)) (fun j => eC _ j (by omega) (by omega) (by omega)) (fun j => eM _ j (by omega) (nf _ _ (by omega)) (by omega)), hW.cg (fun j => eM _ j (by omega) (nf _ _ (by omega)) (by omega)) (fun j => eM _ j (by omega) (nf _ _ (by omega)) (by omega)), hE.cg (eC0 _) (eM _ _ (by omega) (nf8 9 (by omega)) (by omega)) (fun j => eC _ j (by omega) (by omega) (by omega)) (fun j => eM _ j (by omega) (nf _ _ (by omega)) (by omega))⟩
      -- a shelf
      have hch : ∀ b, b < 2 → mg (rsC (bcI I 1 41) N1 8) (rsM (alB9 128 I) N1 8) (76 + 2 * s) b = if (0 ≤ I (76 + 2 * s) 0 ∧ I (76 + 2 * s) 0 < 100 ∧ ¬ (0 ≤ I (76 + 2 * s) 0 ∧ I (76 + 2 * s) 0 < nI N1)) then (if b = 0 then -1 else 0) else I (76 + 2 * s) b := fun b hb => by
        rw [mg_c _ _ (by omega)]
        unfold rsC
        rw [bcI_o (by omega), bcI_o (by omega)]
        by_cases q : (0 ≤ I (76 + 2 * s) 0 ∧ I (76 + 2 * s) 0 < 100 ∧ ¬ (0 ≤ I (76 + 2 * s) 0 ∧ I (76 + 2 * s) 0 < nI N1))
        · rw [if_pos q]; exact if_pos ⟨by omega, by omega, by omega, q, hb⟩
        · rw [if_neg q]; exact if_neg (fun z => q z.2.2.2.1)
      have h118 : mg (rsC (bcI I 1 41) N1 8) (rsM (alB9 128 I) N1 8) 118 s = if I 118 s = 2 ∧ nI N1 ≤ I 121 s then 0 else I 118 s := by
        rw [mg_r _ _ (by omega)]
        unfold rsM
        rw [hx.2 118 s (nf _ _ (by omega)), hx.2 121 s (nf _ _ (by omega))]
        by_cases q : I 118 s = 2 ∧ nI N1 ≤ I 121 s
        · rw [if_pos q, if_pos ⟨rfl, hs, q⟩]
        · rw [if_neg q, if_neg (fun z => q z.2.2)]
      unfold rSh
      rw [hch 0 (by omega), hch 1 (by omega), h118, eM 119 s (by omega) (nf _ _ (by omega)) (by omega), eM 120 s (by omega) (nf _ _ (by omega)) (by omega), eM 121 s (by omega) (nf _ _ (by omega)) (by omega), hb2.n.2.2.1]
      rcases hS s hs with ⟨a, b, c⟩ | ⟨a, b, c, d⟩ | ⟨a, b, c, d, e⟩
      · have q1 : ¬ (0 ≤ I (76 + 2 * s) 0 ∧ I (76 + 2 * s) 0 < 100 ∧ ¬ (0 ≤ I (76 + 2 * s) 0 ∧ I (76 + 2 * s) 0 < nI N1)) := by
          rw [b]; rintro ⟨z, -⟩; exact absurd z (by decide)
        rw [if_neg q1, if_neg q1, if_neg (fun z => by rw [a] at z; exact absurd z.1 (by decide))]
        exact Or.inl ⟨a, b, c⟩
      · have q1 : ¬ (0 ≤ I (76 + 2 * s) 0 ∧ I (76 + 2 * s) 0 < 100 ∧ ¬ (0 ≤ I (76 + 2 * s) 0 ∧ I (76 + 2 * s) 0 < nI N1)) := by
          rintro ⟨-, z, -⟩
          rw [c, ti_lt, ti_sort b, ti_100] at z
          have := b.1; omega
        rw [if_neg q1, if_neg q1, if_neg (fun z => by rw [a] at z; exact absurd z.1 (by decide))]
        exact Or.inr (Or.inl ⟨a, b, c, d⟩)
      · by_cases y : nI N1 ≤ I 121 s
        · have h100 : I (76 + 2 * s) 0 < 100 := ((sh_ch hb (hS s hs)).mpr a).2
          have q1 : 0 ≤ I (76 + 2 * s) 0 ∧ I (76 + 2 * s) 0 < 100 ∧ ¬ (0 ≤ I (76 + 2 * s) 0 ∧ I (76 + 2 * s) 0 < nI N1) := ⟨by rw [b]; exact d, h100, fun z => by rw [b] at z; exact absurd z.2 (Int32.not_lt.mpr y)⟩
          rw [if_pos q1, if_pos q1, if_pos ⟨a, y⟩]
          exact Or.inl ⟨rfl, rfl, rfl⟩
        · have q1 : ¬ (0 ≤ I (76 + 2 * s) 0 ∧ I (76 + 2 * s) 0 < 100 ∧ ¬ (0 ≤ I (76 + 2 * s) 0 ∧ I (76 + 2 * s) 0 < nI N1)) := by
            rintro ⟨-, -, z⟩
            exact z ⟨by rw [b]; exact d, by rw [b]; exact Int32.not_le.mp y⟩
          rw [if_neg q1, if_neg q1, if_neg (fun z => y z.2)]
          exact Or.inr (Or.inr ⟨a, b, c, d, Int32.not_le.mp y⟩)
end P88
