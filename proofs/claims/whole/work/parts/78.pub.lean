/-! PUBLIC METHODS: sack, child -/
section P78
variable {I C J : pI} {L : pL} {N S : Nat}

theorem n_lt8 {S : Nat} (h : S ≤ 8) : nI S < 8 ↔ ¬ S = 8 := by
  rw [show (8 : Int32) = nI 8 from rfl, nI_ltI (by omega) (by omega)]; omega
theorem n_le8 {S : Nat} (h : S ≤ 8) : 8 ≤ nI S ↔ S = 8 := by
  rw [show (8 : Int32) = nI 8 from rfl, nI_leI (by omega) (by omega)]; omega
theorem n_eq8 {S : Nat} (h : S ≤ 8) : nI S = 8 ↔ S = 8 := by
  rw [show (8 : Int32) = nI 8 from rfl, nI_eq (by omega) (by omega)]
def w_sk (S : Nat) (l h : Int32) : Int32 := if l < 1 ∨ 9 < l ∨ h < 0 ∨ 9 < h then -6 else if S = 8 then -7 else 0
theorem w_sk_w (S : Nat) (l h : Int32) : w_sk S l h = 0 ∨ isW (w_sk S l h) := by unfold w_sk; (repeat' split) <;> first | exact Or.inl rfl | (right; unfold isW; decide)
theorem w_sk_0 {l h : Int32} (z : w_sk S l h = 0) : wi l 1 9 ∧ wi h 0 9 ∧ ¬ S = 8 := by
  unfold w_sk at z
  by_cases a : l < 1 ∨ 9 < l ∨ h < 0 ∨ 9 < h
  · rw [if_pos a] at z; exact absurd z (by decide)
  · rw [if_neg a] at z
    by_cases b : S = 8
    · rw [if_pos b] at z; exact absurd z (by decide)
    · simp only [ti_lt, ti_0, ti_1, show (9 : Int32).toInt = 9 from by decide] at a
      refine ⟨?_, ?_, b⟩ <;> unfold wi <;> omega
def v_sk (I : pI) (s : Nat) (l h : Int32) : pI := mm_u (mm_u (mm_u I 116 s l) 117 s h) 108 1 (nI s + 1)
theorem x_addS_u (hb : bR I N S) (l h : Int32) : x_addS I 1 l h = mm_u (mm_u (mm_u I (13 + (nI S).toNatClampNeg) 0 l) (13 + (nI S).toNatClampNeg) 1 h) 1 3 (nI S + 1) := by
  unfold x_addS
  rw [hb.c13 (sc.rf I)]
  simp only [mm_u_sr, sr_same, sr_sr]
  rw [sr_other _ _ (by omega)]

set_option maxHeartbeats 400000 in
theorem cl_sack (d : Nat) (hb : bR I N S) {l h : Int32} : cP (d + 3) 68 [.ref 0, .int l, .int h] (mm_sh, mm_R, I, L) (pX (some (.int (vq (w_sk S l h) (nI S)))) (lL (w_sk S l h) L L) (sc (uC (w_sk S l h) (x_addS I 1 l h) I))) := by
  have hs := sc.rf I
  have e11 : I 1 1 = nI N := hb.c11 hs
  have e13 : I 1 3 = nI S := hb.c13 hs
  refine cP.of_gP (d := d + 2) me_68 ⟨Nat.le_of_ble_eq_true rfl, rfl⟩ ?_
  show gP mm_cs0 _ _ _ _ _ _ [some (.ref _), some (.int _), some (.int _)] [] _ _
  refine gp_iload_n dX8_sack_0 rfl ?_
  refine gp_pu (st' := .int (1) :: _) dX8_sack_1 rfl ?_
  refine gp_icc (t := 21) dX8_sack_2 (by decide) c2_lt (fun h1 => ?_) (fun h1 => ?_)
  · have h1' := Int32.not_le.mpr h1
    (try simp only [Classical.not_not, e11, e13, n_lt8 hb.n.2.1] at h1)
    refine gp_aload_n dX8_sack_21 rfl ?_
    refine gp_pu (st' := .int (-6) :: _) dX8_sack_22 rfl ?_
    refine gp_call (kind := 1) (args := [.ref _, .int _]) (rest := _) dX8_sack_24 (Or.inr (Or.inl ⟨rfl, rfl⟩)) mk_8_79 (by decide) me_100 rfl rfl rfl rfl rfl (mm_rc_of (by first | rfl | assumption | (simp only [*]; done))) (ok_X8_refuse _ _ _ _) rfl ?_
    refine gp_iret dX8_sack_27 rfl ?_
    first | (refine uNo ?zqa ?zqc; (case zqa => (first | ((simp [w_sk, *]; done)) | (exfalso; first | contradiction | (simp_all; done)))); (case zqc => (unfold isW; decide)))
  · have h1' := Int32.not_lt.mp h1
    (try simp only [Classical.not_not, e11, e13, n_lt8 hb.n.2.1] at h1)
    refine gp_iload_n dX8_sack_5 rfl ?_
    refine gp_pu (st' := .int (9) :: _) dX8_sack_6 rfl ?_
    refine gp_icc (t := 21) dX8_sack_8 (by decide) c2_gt (fun h2 => ?_) (fun h2 => ?_)
    · have h2' := Int32.not_le.mpr h2
      (try simp only [Classical.not_not, e11, e13, n_lt8 hb.n.2.1] at h2)
      refine gp_aload_n dX8_sack_21 rfl ?_
      refine gp_pu (st' := .int (-6) :: _) dX8_sack_22 rfl ?_
      refine gp_call (kind := 1) (args := [.ref _, .int _]) (rest := _) dX8_sack_24 (Or.inr (Or.inl ⟨rfl, rfl⟩)) mk_8_79 (by decide) me_100 rfl rfl rfl rfl rfl (mm_rc_of (by first | rfl | assumption | (simp only [*]; done))) (ok_X8_refuse _ _ _ _) rfl ?_
      refine gp_iret dX8_sack_27 rfl ?_
      first | (refine uNo ?zqa ?zqc; (case zqa => (first | ((simp [w_sk, *]; done)) | (exfalso; first | contradiction | (simp_all; done)))); (case zqc => (unfold isW; decide)))
    · have h2' := Int32.not_lt.mp h2
      (try simp only [Classical.not_not, e11, e13, n_lt8 hb.n.2.1] at h2)
      refine gp_iload_n dX8_sack_11 rfl ?_
      refine gp_ifc (t := 21) dX8_sack_12 (by decide) c1_lt (fun h3 => ?_) (fun h3 => ?_)
      · have h3' := Int32.not_le.mpr h3
        (try simp only [Classical.not_not, e11, e13, n_lt8 hb.n.2.1] at h3)
        refine gp_aload_n dX8_sack_21 rfl ?_
        refine gp_pu (st' := .int (-6) :: _) dX8_sack_22 rfl ?_
        refine gp_call (kind := 1) (args := [.ref _, .int _]) (rest := _) dX8_sack_24 (Or.inr (Or.inl ⟨rfl, rfl⟩)) mk_8_79 (by decide) me_100 rfl rfl rfl rfl rfl (mm_rc_of (by first | rfl | assumption | (simp only [*]; done))) (ok_X8_refuse _ _ _ _) rfl ?_
        refine gp_iret dX8_sack_27 rfl ?_
        first | (refine uNo ?zqa ?zqc; (case zqa => (first | ((simp [w_sk, *]; done)) | (exfalso; first | contradiction | (simp_all; done)))); (case zqc => (unfold isW; decide)))
      · have h3' := Int32.not_lt.mp h3
        (try simp only [Classical.not_not, e11, e13, n_lt8 hb.n.2.1] at h3)
        refine gp_iload_n dX8_sack_15 rfl ?_
        refine gp_pu (st' := .int (9) :: _) dX8_sack_16 rfl ?_
        refine gp_icc (t := 28) dX8_sack_18 (by decide) c2_le (fun h4 => ?_) (fun h4 => ?_)
        · have h4' := Int32.not_lt.mpr h4
          (try simp only [Classical.not_not, e11, e13, n_lt8 hb.n.2.1] at h4)
          refine gp_aload_n dX8_sack_28 rfl ?_
          refine gp_gr dX8_sack_29 mf_8_10 rfl (by first | rfl | assumption | (simp only [*]; done)) (by first | rfl | assumption | (simp only [*]; done)) ?_
          refine gp_giv dX8_sack_32 mf_8_161 (by decide) (by first | rfl | assumption | (simp only [*]; done)) (by first | exact e13 | exact rfl) ?_
          refine gp_pu (st' := .int (8) :: _) dX8_sack_35 rfl ?_
          refine gp_icc (t := 47) dX8_sack_37 (by decide) c2_lt (fun h5 => ?_) (fun h5 => ?_)
          · have h5' := Int32.not_le.mpr h5
            (try simp only [Classical.not_not, e11, e13, n_lt8 hb.n.2.1] at h5)
            refine gp_aload_n dX8_sack_47 rfl ?_
            refine gp_gr dX8_sack_48 mf_8_10 rfl (by first | rfl | assumption | (simp only [*]; done)) (by first | rfl | assumption | (simp only [*]; done)) ?_
            refine gp_iload_n dX8_sack_51 rfl ?_
            refine gp_iload_n dX8_sack_52 rfl ?_
            refine gp_call (kind := 1) (args := [.ref _, .int _, .int _]) (rest := _) dX8_sack_53 (Or.inr (Or.inl ⟨rfl, rfl⟩)) mk_8_164 (by decide) me_6 rfl rfl rfl rfl rfl (mm_rc_of (by first | rfl | assumption | (simp only [*]; done))) (ok_X1_addSack _ _ _ 1 isF_1 _ _ (by rw [e13]; exact ⟨nI_pos' (by have := hb.n.2.1; omega), (n_lt8 hb.n.2.1).mpr (by assumption)⟩)) rfl ?_
            refine gp_iret dX8_sack_56 rfl ?_
            first | (refine uOk ?zqa ?zqb (sc.rf _); (case zqa => (first | ((simp [w_sk, *]; done)) | (exfalso; first | contradiction | (simp_all; done)))); (case zqb => (exact e13.symm)))
          · have h5' := Int32.not_lt.mp h5
            (try simp only [Classical.not_not, e11, e13, n_lt8 hb.n.2.1] at h5)
            refine gp_aload_n dX8_sack_40 rfl ?_
            refine gp_pu (st' := .int (-7) :: _) dX8_sack_41 rfl ?_
            refine gp_call (kind := 1) (args := [.ref _, .int _]) (rest := _) dX8_sack_43 (Or.inr (Or.inl ⟨rfl, rfl⟩)) mk_8_79 (by decide) me_100 rfl rfl rfl rfl rfl (mm_rc_of (by first | rfl | assumption | (simp only [*]; done))) (ok_X8_refuse _ _ _ _) rfl ?_
            refine gp_iret dX8_sack_46 rfl ?_
            first | (refine uNo ?zqa ?zqc; (case zqa => (first | ((simp [w_sk, *]; done)) | (exfalso; first | contradiction | (simp_all; done)))); (case zqc => (unfold isW; decide)))
        · have h4' := Int32.not_le.mp h4
          (try simp only [Classical.not_not, e11, e13, n_lt8 hb.n.2.1] at h4)
          refine gp_aload_n dX8_sack_21 rfl ?_
          refine gp_pu (st' := .int (-6) :: _) dX8_sack_22 rfl ?_
          refine gp_call (kind := 1) (args := [.ref _, .int _]) (rest := _) dX8_sack_24 (Or.inr (Or.inl ⟨rfl, rfl⟩)) mk_8_79 (by decide) me_100 rfl rfl rfl rfl rfl (mm_rc_of (by first | rfl | assumption | (simp only [*]; done))) (ok_X8_refuse _ _ _ _) rfl ?_
          refine gp_iret dX8_sack_27 rfl ?_
          first | (refine uNo ?zqa ?zqc; (case zqa => (first | ((simp [w_sk, *]; done)) | (exfalso; first | contradiction | (simp_all; done)))); (case zqc => (unfold isW; decide)))

set_option maxHeartbeats 400000 in
theorem ml_addsSack (d : Nat) (v : vN I N S) (hs : mR I C J) (hS8 : ¬ S = 8) {l h : Int32} : cP (d + 1) 143 [.ref 108, .int l, .int h] (mm_sh, mm_R, J, L) (pX (some (.int (nI S))) L (mR (mm_u (mm_u (mm_u I 116 (nI S).toNatClampNeg l) 117 (nI S).toNatClampNeg h) 108 1 (nI S + 1)) C)) := by
  have m1 : J 108 1 = nI S := (hs.r (by decide)).trans v.2.2.2.1
  have zqi : mm_in (nI S) 8 = true := mm_in_8.mpr ⟨nI_pos' (by have := v.2.1; omega), (n_lt8 v.2.1).mpr hS8⟩
  refine cP.of_gP (d := d + 0) me_143 ⟨Nat.le_of_ble_eq_true rfl, rfl⟩ ?_
  show gP mm_cs0 _ _ _ _ _ _ [some (.ref _), some (.int _), some (.int _)] [] _ _
  refine gp_aload_n dX9_addsSack_0 rfl ?_
  refine gp_gr dX9_addsSack_1 mf_9_50 rfl (by first | rfl | assumption | (simp only [*]; done)) (by first | rfl | assumption | (simp only [*]; done)) ?_
  refine gp_aload_n dX9_addsSack_4 rfl ?_
  refine gp_giv dX9_addsSack_5 mf_9_120 (by decide) (by first | rfl | assumption | (simp only [*]; done)) (by first | exact m1 | exact rfl) ?_
  refine gp_iload_n dX9_addsSack_8 rfl ?_
  refine gp_ias dX9_addsSack_9 (by first | rfl | assumption | (simp only [*]; done)) (by first | rfl | assumption | (simp only [*]; done)) ?_
  refine gp_aload_n dX9_addsSack_10 rfl ?_
  refine gp_gr dX9_addsSack_11 mf_9_53 rfl (by first | rfl | assumption | (simp only [*]; done)) (by first | rfl | assumption | (simp only [*]; done)) ?_
  refine gp_aload_n dX9_addsSack_14 rfl ?_
  refine gp_giv dX9_addsSack_15 mf_9_120 (by decide) (by first | rfl | assumption | (simp only [*]; done)) (by first | exact m1 | exact rfl) ?_
  refine gp_iload_n dX9_addsSack_18 rfl ?_
  refine gp_ias dX9_addsSack_19 (by first | rfl | assumption | (simp only [*]; done)) (by first | rfl | assumption | (simp only [*]; done)) ?_
  refine gp_aload_n dX9_addsSack_20 rfl ?_
  refine gp_pu dX9_addsSack_21 rfl ?_
  refine gp_giv dX9_addsSack_22 mf_9_120 (by decide) (by first | rfl | assumption | (simp only [*]; done)) (by first | exact m1 | exact rfl) ?_
  refine gp_pu dX9_addsSack_25 rfl ?_
  refine gp_pu (st' := .int (1) :: _) dX9_addsSack_26 rfl ?_
  refine gp_pu (st' := .int _ :: _) dX9_addsSack_27 rfl ?_
  refine gp_pi dX9_addsSack_28 mf_9_120 rfl rfl (by first | rfl | assumption | (simp only [*]; done)) ?_
  refine gp_iret dX9_addsSack_31 rfl ?_
  (exact pX.mk rfl (((hs.uu (by decide)).uu (by decide)).uu (by decide)))

set_option maxHeartbeats 400000 in
theorem ml_sack (d : Nat) (v : vN I N S) (hs : mR I C J) {l h : Int32} : cP (d + 2) 145 [.ref 108, .int l, .int h] (mm_sh, mm_R, J, L) (pX (some (.int (vq (w_sk S l h) (nI S)))) (lL (w_sk S l h) L L) (mR (uM (w_sk S l h) (mm_u (mm_u (mm_u I 116 (nI S).toNatClampNeg l) 117 (nI S).toNatClampNeg h) 108 1 (nI S + 1)) I) C)) := by
  have m0 : J 108 0 = nI N := (hs.r (by decide)).trans v.2.2.1
  have m1 : J 108 1 = nI S := (hs.r (by decide)).trans v.2.2.2.1
  refine cP.of_gP (d := d + 1) me_145 ⟨Nat.le_of_ble_eq_true rfl, rfl⟩ ?_
  show gP mm_cs0 _ _ _ _ _ _ [some (.ref _), some (.int _), some (.int _)] [] _ _
  refine gp_iload_n dX9_sack_0 rfl ?_
  refine gp_pu (st' := .int (1) :: _) dX9_sack_1 rfl ?_
  refine gp_icc (t := 21) dX9_sack_2 (by decide) c2_lt (fun h1 => ?_) (fun h1 => ?_)
  · have h1' := Int32.not_le.mpr h1
    (try simp only [Classical.not_not, m0, m1, n_eq8 v.2.1] at h1)
    refine gp_aload_n dX9_sack_21 rfl ?_
    refine gp_pu (st' := .int (-6) :: _) dX9_sack_22 rfl ?_
    refine gp_call (kind := 1) (args := [.ref _, .int _]) (rest := _) dX9_sack_24 (Or.inr (Or.inl ⟨rfl, rfl⟩)) mk_9_127 (by decide) me_127 rfl rfl rfl rfl rfl (mm_rc_of (by first | rfl | assumption | (simp only [*]; done))) (ok_X9_no _ _ _ _ (by decide)) rfl ?_
    refine gp_iret dX9_sack_27 rfl ?_
    first | (refine uMo ?zqa ?zqc hs; (case zqa => (first | ((simp [w_sk, *]; done)) | (exfalso; first | contradiction | (simp_all; done)))); (case zqc => (unfold isW; decide)))
  · have h1' := Int32.not_lt.mp h1
    (try simp only [Classical.not_not, m0, m1, n_eq8 v.2.1] at h1)
    refine gp_iload_n dX9_sack_5 rfl ?_
    refine gp_pu (st' := .int (9) :: _) dX9_sack_6 rfl ?_
    refine gp_icc (t := 21) dX9_sack_8 (by decide) c2_gt (fun h2 => ?_) (fun h2 => ?_)
    · have h2' := Int32.not_le.mpr h2
      (try simp only [Classical.not_not, m0, m1, n_eq8 v.2.1] at h2)
      refine gp_aload_n dX9_sack_21 rfl ?_
      refine gp_pu (st' := .int (-6) :: _) dX9_sack_22 rfl ?_
      refine gp_call (kind := 1) (args := [.ref _, .int _]) (rest := _) dX9_sack_24 (Or.inr (Or.inl ⟨rfl, rfl⟩)) mk_9_127 (by decide) me_127 rfl rfl rfl rfl rfl (mm_rc_of (by first | rfl | assumption | (simp only [*]; done))) (ok_X9_no _ _ _ _ (by decide)) rfl ?_
      refine gp_iret dX9_sack_27 rfl ?_
      first | (refine uMo ?zqa ?zqc hs; (case zqa => (first | ((simp [w_sk, *]; done)) | (exfalso; first | contradiction | (simp_all; done)))); (case zqc => (unfold isW; decide)))
    · have h2' := Int32.not_lt.mp h2
      (try simp only [Classical.not_not, m0, m1, n_eq8 v.2.1] at h2)
      refine gp_iload_n dX9_sack_11 rfl ?_
      refine gp_ifc (t := 21) dX9_sack_12 (by decide) c1_lt (fun h3 => ?_) (fun h3 => ?_)
      · have h3' := Int32.not_le.mpr h3
        (try simp only [Classical.not_not, m0, m1, n_eq8 v.2.1] at h3)
        refine gp_aload_n dX9_sack_21 rfl ?_
        refine gp_pu (st' := .int (-6) :: _) dX9_sack_22 rfl ?_
        refine gp_call (kind := 1) (args := [.ref _, .int _]) (rest := _) dX9_sack_24 (Or.inr (Or.inl ⟨rfl, rfl⟩)) mk_9_127 (by decide) me_127 rfl rfl rfl rfl rfl (mm_rc_of (by first | rfl | assumption | (simp only [*]; done))) (ok_X9_no _ _ _ _ (by decide)) rfl ?_
        refine gp_iret dX9_sack_27 rfl ?_
        first | (refine uMo ?zqa ?zqc hs; (case zqa => (first | ((simp [w_sk, *]; done)) | (exfalso; first | contradiction | (simp_all; done)))); (case zqc => (unfold isW; decide)))
      · have h3' := Int32.not_lt.mp h3
        (try simp only [Classical.not_not, m0, m1, n_eq8 v.2.1] at h3)
        refine gp_iload_n dX9_sack_15 rfl ?_
        refine gp_pu (st' := .int (9) :: _) dX9_sack_16 rfl ?_
        refine gp_icc (t := 28) dX9_sack_18 (by decide) c2_le (fun h4 => ?_) (fun h4 => ?_)
        · have h4' := Int32.not_lt.mpr h4
          (try simp only [Classical.not_not, m0, m1, n_eq8 v.2.1] at h4)
          refine gp_aload_n dX9_sack_28 rfl ?_
          refine gp_giv dX9_sack_29 mf_9_120 (by decide) (by first | rfl | assumption | (simp only [*]; done)) (by first | exact m1 | exact rfl) ?_
          refine gp_pu (st' := .int (8) :: _) dX9_sack_32 rfl ?_
          refine gp_icc (t := 46) dX9_sack_34 (by decide) c2_ne (fun h5 => ?_) (fun h5 => ?_)
          · (try simp only [Classical.not_not, m0, m1, n_eq8 v.2.1] at h5)
            refine gp_aload_n dX9_sack_46 rfl ?_
            refine gp_iload_n dX9_sack_47 rfl ?_
            refine gp_iload_n dX9_sack_48 rfl ?_
            refine gp_callX (kind := 1) (args := [.ref _, .int _, .int _]) (rest := _) dX9_sack_49 (Or.inr (Or.inl ⟨rfl, rfl⟩)) mk_9_152 (by decide) me_143 rfl rfl rfl rfl rfl (mm_rc_of (by first | rfl | assumption | (simp only [*]; done))) (ml_addsSack _ v hs (by assumption)) ?_
            intro K1 hK1
            refine gp_iret dX9_sack_52 rfl ?_
            first | (refine uMk ?zqa ?zqb hK1; (case zqa => (first | ((simp [w_sk, *]; done)) | (exfalso; first | contradiction | (simp_all; done)))); (case zqb => (exact rfl)))
          · (try simp only [Classical.not_not, m0, m1, n_eq8 v.2.1] at h5)
            refine gp_aload_n dX9_sack_37 rfl ?_
            refine gp_pu (st' := .int (-7) :: _) dX9_sack_38 rfl ?_
            refine gp_call (kind := 1) (args := [.ref _, .int _]) (rest := _) dX9_sack_40 (Or.inr (Or.inl ⟨rfl, rfl⟩)) mk_9_127 (by decide) me_127 rfl rfl rfl rfl rfl (mm_rc_of (by first | rfl | assumption | (simp only [*]; done))) (ok_X9_no _ _ _ _ (by decide)) rfl ?_
            refine gp_goto (t := 52) dX9_sack_43 (by decide) ?_
            refine gp_iret dX9_sack_52 rfl ?_
            first | (refine uMo ?zqa ?zqc hs; (case zqa => (first | ((simp [w_sk, *]; done)) | (exfalso; first | contradiction | (simp_all; done)))); (case zqc => (unfold isW; decide)))
        · have h4' := Int32.not_le.mp h4
          (try simp only [Classical.not_not, m0, m1, n_eq8 v.2.1] at h4)
          refine gp_aload_n dX9_sack_21 rfl ?_
          refine gp_pu (st' := .int (-6) :: _) dX9_sack_22 rfl ?_
          refine gp_call (kind := 1) (args := [.ref _, .int _]) (rest := _) dX9_sack_24 (Or.inr (Or.inl ⟨rfl, rfl⟩)) mk_9_127 (by decide) me_127 rfl rfl rfl rfl rfl (mm_rc_of (by first | rfl | assumption | (simp only [*]; done))) (ok_X9_no _ _ _ _ (by decide)) rfl ?_
          refine gp_iret dX9_sack_27 rfl ?_
          first | (refine uMo ?zqa ?zqc hs; (case zqa => (first | ((simp [w_sk, *]; done)) | (exfalso; first | contradiction | (simp_all; done)))); (case zqc => (unfold isW; decide)))

theorem eq_sack (l h : Int32) : eqc 68 145 [.int l, .int h] := by
  refine eqc_u fun I L hR => ?_
  have hR0 := hR
  obtain ⟨N, S, hb, hS, hL, hK, hT, hW, hE⟩ := hR
  refine ⟨_, w_sk S l h, x_addS I 1 l h, mm_u (mm_u (mm_u I 116 (nI S).toNatClampNeg l) 117 (nI S).toNatClampNeg h) 108 1 (nI S + 1), (fun L => L), (fun L => L), w_sk_w S l h, fun hw => ?_, cl_sack 37 hb, fun C J K hs => ml_sack 38 hb.1 hs, fun hw => ?_⟩
  · have hS8 := hb.n.2.1
    intro k hk
    rw [x_addS_u hb, mm_u_k _ _ _ (by omega), mm_u_k _ _ _ (by rw [nI_clamp (by omega)]; omega), mm_u_k _ _ _ (by rw [nI_clamp (by omega)]; omega)]
  · obtain ⟨a, b, c⟩ := w_sk_0 hw
    have hS8 := hb.n.2.1
    have e := nI_clamp (n := S) (by omega)
    rw [x_addS_u hb, e]
    have a9 : wi l 0 9 := ⟨by have := a.1; omega, a.2⟩
    refine hR0.now2 (N1 := N) (S1 := S + 1) (((hb.1.sk (j := 0) (c := S) (by decide) a9).sk (j := 1) (c := S) (by decide) b).fl (j := 1) hb.n.1 (by omega) (by omega) rfl (by rw [if_pos rfl, nI_1]) ⟨fun z => absurd z (by decide), fun z => absurd z (by decide), fun z => absurd z (by decide), fun z => absurd z (by decide), fun z => absurd z (by decide)⟩) (((hb.2.sk (f := 1) (j := 0) (c := S) l (by omega) (by decide)).sk (f := 1) (j := 1) (c := S) h (by omega) (by decide)).fl (p := 3) (q := 1) (nI S + 1) (by decide)) (Int32.le_refl _) (fun k a b => ?_) (fun k a b => ?_) rfl rfl rfl
    · rw [mm_u_k _ _ _ (by omega), mm_u_k _ _ _ (by omega), mm_u_k _ _ _ (by omega)]
    · rw [mm_u_k _ _ _ (by omega), mm_u_k _ _ _ (by omega), mm_u_k _ _ _ (by omega)]

def w_ch (N : Nat) (k a l : Int32) : Int32 := if k < 0 ∨ 6 < k then -1 else if a < 0 ∨ 9 < a ∨ l < 1 ∨ 9 < l then -6 else if N = 8 then -7 else 0
theorem w_ch_w (N : Nat) (k a l : Int32) : w_ch N k a l = 0 ∨ isW (w_ch N k a l) := by unfold w_ch; (repeat' split) <;> first | exact Or.inl rfl | (right; unfold isW; decide)
theorem w_ch_0 {k a l : Int32} (z : w_ch N k a l = 0) : wi k 0 6 ∧ wi a 0 9 ∧ wi l 1 9 ∧ ¬ N = 8 := by
  unfold w_ch at z
  by_cases x : k < 0 ∨ 6 < k
  · rw [if_pos x] at z; exact absurd z (by decide)
  · rw [if_neg x] at z
    by_cases y : a < 0 ∨ 9 < a ∨ l < 1 ∨ 9 < l
    · rw [if_pos y] at z; exact absurd z (by decide)
    · rw [if_neg y] at z
      by_cases b : N = 8
      · rw [if_pos b] at z; exact absurd z (by decide)
      · simp only [ti_lt, ti_0, ti_1, show (9 : Int32).toInt = 9 from by decide, show (6 : Int32).toInt = 6 from by decide] at x y
        refine ⟨?_, ?_, ?_, b⟩ <;> unfold wi <;> omega
theorem kd7 (k : Int32) : (0 ≤ k ∧ k < 7) ↔ ¬ (k < 0 ∨ 6 < k) := by
  simp only [ti_le, ti_lt, ti_0, show (7 : Int32).toInt = 7 from by decide, show (6 : Int32).toInt = 6 from by decide]
  omega
/-- the sack of a new child -/
def nwS (N S : Nat) : Int32 := if N < S then nI N else 0
def v_ch (I : pI) (N S : Nat) (k a l : Int32) : pI := mm_u (mm_u (mm_u (mm_u (mm_u (mm_u (mm_u I 110 (nI N).toNatClampNeg k) 111 (nI N).toNatClampNeg a) 112 (nI N).toNatClampNeg l) 113 (nI N).toNatClampNeg (nwS N S)) 114 (nI N).toNatClampNeg 0) 115 (nI N).toNatClampNeg 0) 108 0 (nI N + 1)
def u_ch (I : pI) (f N S : Nat) (k a l : Int32) : pI := mm_u (mm_u (mm_u (mm_u (mm_u (mm_u (mm_u I (f + 4 + (nI N).toNatClampNeg) 0 k) (f + 4 + (nI N).toNatClampNeg) 1 a) (f + 4 + (nI N).toNatClampNeg) 2 l) (f + 4 + (nI N).toNatClampNeg) 3 (nwS N S)) (f + 4 + (nI N).toNatClampNeg) 4 0) (f + 4 + (nI N).toNatClampNeg) 5 0) f 1 (nI N + 1)
theorem x_addC_u {f : Nat} (h1 : I f 1 = nI N) (h3 : I f 3 = nI S) (hN : N ≤ 8) (hS : S ≤ 8) (k a l : Int32) : x_addC I f k a l = u_ch I f N S k a l := by
  unfold x_addC u_ch nwS
  rw [h1, h3]
  have e : (0 ≤ nI N ∧ nI N < nI S) ↔ N < S := by
    rw [nI_ltI (by omega) (by omega)]
    exact ⟨fun z => z.2, fun z => ⟨nI_pos' (by omega), z⟩⟩
  simp only [e, mm_u_sr, sr_same, sr_sr]
  rw [sr_other _ _ (by omega)]
theorem rF_ch {f : Nat} {V : pI} (h : rF f I V) (hN : N < 8) (k a l : Int32) : rF f (u_ch I f N S k a l) (v_ch V N S k a l) := by
  have e := nI_clamp (n := N) (by omega)
  unfold u_ch v_ch
  rw [e]
  exact ((((((h.ch (j := 0) k hN (by decide)).ch (j := 1) a hN (by decide)).ch (j := 2) l hN (by decide)).ch (j := 3) (nwS N S) hN (by decide)).ch (j := 4) 0 hN (by decide)).ch (j := 5) 0 hN (by decide)).fl (p := 1) (q := 0) (nI N + 1) (by decide)
theorem nwS_w (h8 : N ≤ 8) (S8 : S ≤ 8) : nwS N S = 0 ∨ (0 ≤ nwS N S ∧ nwS N S < nI S) := by
  unfold nwS
  split
  · rename_i z
    exact Or.inr ⟨nI_pos' (by omega), nI_lt z (by omega)⟩
  · exact Or.inl rfl
theorem vN_ch (v : vN I N S) (hN : N < 8) {k a l : Int32} (hk : wi k 0 6) (ha : wi a 0 9) (hl : wi l 1 9) : vN (v_ch I N S k a l) (N + 1) S := by
  have e := nI_clamp (n := N) (by omega)
  have l9 : wi l 0 9 := ⟨by have := hl.1; omega, hl.2⟩
  unfold v_ch
  rw [e]
  refine ((((((v.ch (j := 0) (c := N) (by decide) ⟨fun _ => hk, fun z => absurd z (by decide), fun z => absurd z (by decide), fun z => absurd z (by decide), fun z => absurd z (by decide)⟩).ch (j := 1) (c := N) (by decide) ⟨fun z => absurd z (by decide), fun _ => ha, fun z => absurd z (by decide), fun z => absurd z (by decide), fun z => absurd z (by decide)⟩).ch (j := 2) (c := N) (by decide) ⟨fun z => absurd z (by decide), fun z => absurd z (by decide), fun _ => l9, fun z => absurd z (by decide), fun z => absurd z (by decide)⟩).ch (j := 3) (c := N) (by decide) ⟨fun z => absurd z (by decide), fun z => absurd z (by decide), fun z => absurd z (by decide), fun _ => nwS_w v.1 v.2.1, fun z => absurd z (by decide)⟩).ch (j := 4) (c := N) (by decide) ⟨fun z => absurd z (by decide), fun z => absurd z (by decide), fun z => absurd z (by decide), fun z => absurd z (by decide), fun _ => ⟨by decide, by decide⟩⟩).ch (j := 5) (c := N) (by decide) ⟨fun z => absurd z (by decide), fun z => absurd z (by decide), fun z => absurd z (by decide), fun z => absurd z (by decide), fun z => absurd z (by decide)⟩).fl (j := 0) (by omega) v.2.1 (Nat.le_refl _) (by rw [if_pos rfl, nI_1]) rfl ⟨fun z => absurd z (by decide), fun z => absurd z (by decide), fun z => absurd z (by decide), fun z => absurd z (by decide), fun z => absurd z (by decide)⟩

set_option maxHeartbeats 400000 in
theorem cl_child (d : Nat) (hb : bR I N S) {k a l : Int32} : cP (d + 3) 67 [.ref 0, .int k, .int a, .int l] (mm_sh, mm_R, I, L) (pX (some (.int (vq (w_ch N k a l) (nI N)))) (lL (w_ch N k a l) L L) (sc (uC (w_ch N k a l) (u_ch I 1 N S k a l) I))) := by
  have hs := sc.rf I
  have e11 : I 1 1 = nI N := hb.c11 hs
  have e13 : I 1 3 = nI S := hb.c13 hs
  refine cP.of_gP (d := d + 2) me_67 ⟨Nat.le_of_ble_eq_true rfl, rfl⟩ ?_
  show gP mm_cs0 _ _ _ _ _ _ [some (.ref _), some (.int _), some (.int _), some (.int _)] [] _ _
  refine gp_iload_n dX8_child_0 rfl ?_
  refine gp_call (kind := 0) (args := [.int _]) (rest := _) dX8_child_1 (Or.inl ⟨rfl, rfl⟩) mk_8_135 (by decide) me_102 rfl rfl rfl rfl rfl rfl (ok_X8_isKind _ _ _ _) rfl ?_
  refine gp_ifc (t := 13) dX8_child_4 (by decide) c1_ne (fun h1 => ?_) (fun h1 => ?_)
  · (try simp only [bi_0, Classical.not_not, e11, e13, kd7, n_lt8 hb.n.1] at h1)
    refine gp_iload_n dX8_child_13 rfl ?_
    refine gp_ifc (t := 34) dX8_child_14 (by decide) c1_lt (fun h2 => ?_) (fun h2 => ?_)
    · have h2' := Int32.not_le.mpr h2
      (try simp only [bi_0, Classical.not_not, e11, e13, kd7, n_lt8 hb.n.1] at h2)
      refine gp_aload_n dX8_child_34 rfl ?_
      refine gp_pu (st' := .int (-6) :: _) dX8_child_35 rfl ?_
      refine gp_call (kind := 1) (args := [.ref _, .int _]) (rest := _) dX8_child_37 (Or.inr (Or.inl ⟨rfl, rfl⟩)) mk_8_79 (by decide) me_100 rfl rfl rfl rfl rfl (mm_rc_of (by first | rfl | assumption | (simp only [*]; done))) (ok_X8_refuse _ _ _ _) rfl ?_
      refine gp_iret dX8_child_40 rfl ?_
      first | (refine uNo ?zqa ?zqc; (case zqa => (first | ((simp [w_ch, *]; done)) | (exfalso; first | contradiction | (simp_all; done)))); (case zqc => (unfold isW; decide)))
    · have h2' := Int32.not_lt.mp h2
      (try simp only [bi_0, Classical.not_not, e11, e13, kd7, n_lt8 hb.n.1] at h2)
      refine gp_iload_n dX8_child_17 rfl ?_
      refine gp_pu (st' := .int (9) :: _) dX8_child_18 rfl ?_
      refine gp_icc (t := 34) dX8_child_20 (by decide) c2_gt (fun h3 => ?_) (fun h3 => ?_)
      · have h3' := Int32.not_le.mpr h3
        (try simp only [bi_0, Classical.not_not, e11, e13, kd7, n_lt8 hb.n.1] at h3)
        refine gp_aload_n dX8_child_34 rfl ?_
        refine gp_pu (st' := .int (-6) :: _) dX8_child_35 rfl ?_
        refine gp_call (kind := 1) (args := [.ref _, .int _]) (rest := _) dX8_child_37 (Or.inr (Or.inl ⟨rfl, rfl⟩)) mk_8_79 (by decide) me_100 rfl rfl rfl rfl rfl (mm_rc_of (by first | rfl | assumption | (simp only [*]; done))) (ok_X8_refuse _ _ _ _) rfl ?_
        refine gp_iret dX8_child_40 rfl ?_
        first | (refine uNo ?zqa ?zqc; (case zqa => (first | ((simp [w_ch, *]; done)) | (exfalso; first | contradiction | (simp_all; done)))); (case zqc => (unfold isW; decide)))
      · have h3' := Int32.not_lt.mp h3
        (try simp only [bi_0, Classical.not_not, e11, e13, kd7, n_lt8 hb.n.1] at h3)
        refine gp_iload_n dX8_child_23 rfl ?_
        refine gp_pu (st' := .int (1) :: _) dX8_child_24 rfl ?_
        refine gp_icc (t := 34) dX8_child_25 (by decide) c2_lt (fun h4 => ?_) (fun h4 => ?_)
        · have h4' := Int32.not_le.mpr h4
          (try simp only [bi_0, Classical.not_not, e11, e13, kd7, n_lt8 hb.n.1] at h4)
          refine gp_aload_n dX8_child_34 rfl ?_
          refine gp_pu (st' := .int (-6) :: _) dX8_child_35 rfl ?_
          refine gp_call (kind := 1) (args := [.ref _, .int _]) (rest := _) dX8_child_37 (Or.inr (Or.inl ⟨rfl, rfl⟩)) mk_8_79 (by decide) me_100 rfl rfl rfl rfl rfl (mm_rc_of (by first | rfl | assumption | (simp only [*]; done))) (ok_X8_refuse _ _ _ _) rfl ?_
          refine gp_iret dX8_child_40 rfl ?_
          first | (refine uNo ?zqa ?zqc; (case zqa => (first | ((simp [w_ch, *]; done)) | (exfalso; first | contradiction | (simp_all; done)))); (case zqc => (unfold isW; decide)))
        · have h4' := Int32.not_lt.mp h4
          (try simp only [bi_0, Classical.not_not, e11, e13, kd7, n_lt8 hb.n.1] at h4)
          refine gp_iload_n dX8_child_28 rfl ?_
          refine gp_pu (st' := .int (9) :: _) dX8_child_29 rfl ?_
          refine gp_icc (t := 41) dX8_child_31 (by decide) c2_le (fun h5 => ?_) (fun h5 => ?_)
          · have h5' := Int32.not_lt.mpr h5
            (try simp only [bi_0, Classical.not_not, e11, e13, kd7, n_lt8 hb.n.1] at h5)
            refine gp_aload_n dX8_child_41 rfl ?_
            refine gp_gr dX8_child_42 mf_8_10 rfl (by first | rfl | assumption | (simp only [*]; done)) (by first | rfl | assumption | (simp only [*]; done)) ?_
            refine gp_giv dX8_child_45 mf_8_154 (by decide) (by first | rfl | assumption | (simp only [*]; done)) (by first | exact e11 | exact rfl) ?_
            refine gp_pu (st' := .int (8) :: _) dX8_child_48 rfl ?_
            refine gp_icc (t := 60) dX8_child_50 (by decide) c2_lt (fun h6 => ?_) (fun h6 => ?_)
            · have h6' := Int32.not_le.mpr h6
              (try simp only [bi_0, Classical.not_not, e11, e13, kd7, n_lt8 hb.n.1] at h6)
              refine gp_aload_n dX8_child_60 rfl ?_
              refine gp_gr dX8_child_61 mf_8_10 rfl (by first | rfl | assumption | (simp only [*]; done)) (by first | rfl | assumption | (simp only [*]; done)) ?_
              refine gp_iload_n dX8_child_64 rfl ?_
              refine gp_iload_n dX8_child_65 rfl ?_
              refine gp_iload_n dX8_child_66 rfl ?_
              refine gp_call (kind := 1) (args := [.ref _, .int _, .int _, .int _]) (rest := _) dX8_child_67 (Or.inr (Or.inl ⟨rfl, rfl⟩)) mk_8_157 (by decide) me_5 rfl rfl rfl rfl rfl (mm_rc_of (by first | rfl | assumption | (simp only [*]; done))) (ok_X1_addChild _ _ _ 1 isF_1 _ _ _ (by rw [e11]; exact ⟨nI_pos' (by have := hb.n.1; omega), (n_lt8 hb.n.1).mpr (by assumption)⟩)) rfl ?_
              refine gp_iret dX8_child_70 rfl ?_
              first | (refine uOk ?zqa ?zqb (by rw [x_addC_u e11 e13 hb.n.1 hb.n.2.1]; exact sc.rf _); (case zqa => (first | ((simp [w_ch, *]; done)) | (exfalso; first | contradiction | (simp_all; done)))); (case zqb => (exact e11.symm)))
            · have h6' := Int32.not_lt.mp h6
              (try simp only [bi_0, Classical.not_not, e11, e13, kd7, n_lt8 hb.n.1] at h6)
              refine gp_aload_n dX8_child_53 rfl ?_
              refine gp_pu (st' := .int (-7) :: _) dX8_child_54 rfl ?_
              refine gp_call (kind := 1) (args := [.ref _, .int _]) (rest := _) dX8_child_56 (Or.inr (Or.inl ⟨rfl, rfl⟩)) mk_8_79 (by decide) me_100 rfl rfl rfl rfl rfl (mm_rc_of (by first | rfl | assumption | (simp only [*]; done))) (ok_X8_refuse _ _ _ _) rfl ?_
              refine gp_iret dX8_child_59 rfl ?_
              first | (refine uNo ?zqa ?zqc; (case zqa => (first | ((simp [w_ch, *]; done)) | (exfalso; first | contradiction | (simp_all; done)))); (case zqc => (unfold isW; decide)))
          · have h5' := Int32.not_le.mp h5
            (try simp only [bi_0, Classical.not_not, e11, e13, kd7, n_lt8 hb.n.1] at h5)
            refine gp_aload_n dX8_child_34 rfl ?_
            refine gp_pu (st' := .int (-6) :: _) dX8_child_35 rfl ?_
            refine gp_call (kind := 1) (args := [.ref _, .int _]) (rest := _) dX8_child_37 (Or.inr (Or.inl ⟨rfl, rfl⟩)) mk_8_79 (by decide) me_100 rfl rfl rfl rfl rfl (mm_rc_of (by first | rfl | assumption | (simp only [*]; done))) (ok_X8_refuse _ _ _ _) rfl ?_
            refine gp_iret dX8_child_40 rfl ?_
            first | (refine uNo ?zqa ?zqc; (case zqa => (first | ((simp [w_ch, *]; done)) | (exfalso; first | contradiction | (simp_all; done)))); (case zqc => (unfold isW; decide)))
  · (try simp only [bi_0, Classical.not_not, e11, e13, kd7, n_lt8 hb.n.1] at h1)
    refine gp_aload_n dX8_child_7 rfl ?_
    refine gp_pu (st' := .int (-1) :: _) dX8_child_8 rfl ?_
    refine gp_call (kind := 1) (args := [.ref _, .int _]) (rest := _) dX8_child_9 (Or.inr (Or.inl ⟨rfl, rfl⟩)) mk_8_79 (by decide) me_100 rfl rfl rfl rfl rfl (mm_rc_of (by first | rfl | assumption | (simp only [*]; done))) (ok_X8_refuse _ _ _ _) rfl ?_
    refine gp_iret dX8_child_12 rfl ?_
    first | (refine uNo ?zqa ?zqc; (case zqa => (first | ((simp [w_ch, *]; done)) | (exfalso; first | contradiction | (simp_all; done)))); (case zqc => (unfold isW; decide)))

set_option maxHeartbeats 400000 in
theorem ml_addsChild (d : Nat) (v : vN I N S) (hs : mR I C J) (hN8 : ¬ N = 8) {k a l : Int32} : cP (d + 1) 142 [.ref 108, .int k, .int a, .int l] (mm_sh, mm_R, J, L) (pX (some (.int (nI N))) L (mR (v_ch I N S k a l) C)) := by
  have m0 : J 108 0 = nI N := (hs.r (by decide)).trans v.2.2.1
  have m1 : J 108 1 = nI S := (hs.r (by decide)).trans v.2.2.2.1
  have zqi : mm_in (nI N) 8 = true := mm_in_8.mpr ⟨nI_pos' (by have := v.1; omega), (n_lt8 v.1).mpr hN8⟩
  have zqle : nI S ≤ nI N ↔ ¬ N < S := by rw [nI_leI (by have := v.2.1; omega) (by have := v.1; omega)]; omega
  refine cP.of_gP (d := d + 0) me_142 ⟨Nat.le_of_ble_eq_true rfl, rfl⟩ ?_
  show gP mm_cs0 _ _ _ _ _ _ [some (.ref _), some (.int _), some (.int _), some (.int _)] [] _ _
  refine gp_aload_n dX9_addsChild_0 rfl ?_
  refine gp_gr dX9_addsChild_1 mf_9_32 rfl (by first | rfl | assumption | (simp only [*]; done)) (by first | rfl | assumption | (simp only [*]; done)) ?_
  refine gp_aload_n dX9_addsChild_4 rfl ?_
  refine gp_giv dX9_addsChild_5 mf_9_117 (by decide) (by first | rfl | assumption | (simp only [*]; done)) (by first | exact m0 | exact m1 | exact rfl) ?_
  refine gp_iload_n dX9_addsChild_8 rfl ?_
  refine gp_ias dX9_addsChild_9 (by first | rfl | assumption | (simp only [*]; done)) (by first | rfl | assumption | (simp only [*]; done)) ?_
  refine gp_aload_n dX9_addsChild_10 rfl ?_
  refine gp_gr dX9_addsChild_11 mf_9_35 rfl (by first | rfl | assumption | (simp only [*]; done)) (by first | rfl | assumption | (simp only [*]; done)) ?_
  refine gp_aload_n dX9_addsChild_14 rfl ?_
  refine gp_giv dX9_addsChild_15 mf_9_117 (by decide) (by first | rfl | assumption | (simp only [*]; done)) (by first | exact m0 | exact m1 | exact rfl) ?_
  refine gp_iload_n dX9_addsChild_18 rfl ?_
  refine gp_ias dX9_addsChild_19 (by first | rfl | assumption | (simp only [*]; done)) (by first | rfl | assumption | (simp only [*]; done)) ?_
  refine gp_aload_n dX9_addsChild_20 rfl ?_
  refine gp_gr dX9_addsChild_21 mf_9_38 rfl (by first | rfl | assumption | (simp only [*]; done)) (by first | rfl | assumption | (simp only [*]; done)) ?_
  refine gp_aload_n dX9_addsChild_24 rfl ?_
  refine gp_giv dX9_addsChild_25 mf_9_117 (by decide) (by first | rfl | assumption | (simp only [*]; done)) (by first | exact m0 | exact m1 | exact rfl) ?_
  refine gp_iload_n dX9_addsChild_28 rfl ?_
  refine gp_ias dX9_addsChild_29 (by first | rfl | assumption | (simp only [*]; done)) (by first | rfl | assumption | (simp only [*]; done)) ?_
  refine gp_aload_n dX9_addsChild_30 rfl ?_
  refine gp_gr dX9_addsChild_31 mf_9_41 rfl (by first | rfl | assumption | (simp only [*]; done)) (by first | rfl | assumption | (simp only [*]; done)) ?_
  refine gp_aload_n dX9_addsChild_34 rfl ?_
  refine gp_giv dX9_addsChild_35 mf_9_117 (by decide) (by first | rfl | assumption | (simp only [*]; done)) (by first | exact m0 | exact m1 | exact rfl) ?_
  refine gp_aload_n dX9_addsChild_38 rfl ?_
  refine gp_giv dX9_addsChild_39 mf_9_117 (by decide) (by first | rfl | assumption | (simp only [*]; done)) (by first | exact m0 | exact m1 | exact rfl) ?_
  refine gp_aload_n dX9_addsChild_42 rfl ?_
  refine gp_giv dX9_addsChild_43 mf_9_120 (by decide) (by first | rfl | assumption | (simp only [*]; done)) (by first | exact m0 | exact m1 | exact rfl) ?_
  refine gp_icc (t := 56) dX9_addsChild_46 (by decide) c2_ge (fun h1 => ?_) (fun h1 => ?_)
  · have h1' := Int32.not_lt.mpr h1
    (try simp only [zqle] at h1)
    refine gp_pu (st' := .int (0) :: _) dX9_addsChild_56 rfl ?_
    refine gp_ias dX9_addsChild_57 (by first | rfl | assumption | (simp only [*]; done)) (by first | rfl | assumption | (simp only [*]; done)) ?_
    refine gp_aload_n dX9_addsChild_58 rfl ?_
    refine gp_gr dX9_addsChild_59 mf_9_44 rfl (by first | rfl | assumption | (simp only [*]; done)) (by first | rfl | assumption | (simp only [*]; done)) ?_
    refine gp_aload_n dX9_addsChild_62 rfl ?_
    refine gp_giv dX9_addsChild_63 mf_9_117 (by decide) (by first | rfl | assumption | (simp only [*]; done)) (by first | exact m0 | exact m1 | exact rfl) ?_
    refine gp_pu (st' := .int (0) :: _) dX9_addsChild_66 rfl ?_
    refine gp_ias dX9_addsChild_67 (by first | rfl | assumption | (simp only [*]; done)) (by first | rfl | assumption | (simp only [*]; done)) ?_
    refine gp_aload_n dX9_addsChild_68 rfl ?_
    refine gp_gr dX9_addsChild_69 mf_9_47 rfl (by first | rfl | assumption | (simp only [*]; done)) (by first | rfl | assumption | (simp only [*]; done)) ?_
    refine gp_aload_n dX9_addsChild_72 rfl ?_
    refine gp_giv dX9_addsChild_73 mf_9_117 (by decide) (by first | rfl | assumption | (simp only [*]; done)) (by first | exact m0 | exact m1 | exact rfl) ?_
    refine gp_pu (st' := .int (0) :: _) dX9_addsChild_76 rfl ?_
    refine gp_ias dX9_addsChild_77 (by first | rfl | assumption | (simp only [*]; done)) (by first | rfl | assumption | (simp only [*]; done)) ?_
    refine gp_aload_n dX9_addsChild_78 rfl ?_
    refine gp_pu dX9_addsChild_79 rfl ?_
    refine gp_giv dX9_addsChild_80 mf_9_117 (by decide) (by first | rfl | assumption | (simp only [*]; done)) (by first | exact m0 | exact m1 | exact rfl) ?_
    refine gp_pu dX9_addsChild_83 rfl ?_
    refine gp_pu (st' := .int (1) :: _) dX9_addsChild_84 rfl ?_
    refine gp_pu (st' := .int _ :: _) dX9_addsChild_85 rfl ?_
    refine gp_pi dX9_addsChild_86 mf_9_117 rfl rfl (by first | rfl | assumption | (simp only [*]; done)) ?_
    refine gp_iret dX9_addsChild_89 rfl ?_
    (refine pX.mk rfl ?_
     have e : nwS N S = 0 := if_neg h1
     unfold v_ch
     rw [e]
     exact (((((((hs.uu (by decide)).uu (by decide)).uu (by decide)).uu (by decide)).uu (by decide)).uu (by decide)).uu (by decide)))
  · have h1' := Int32.not_le.mp h1
    (try simp only [zqle] at h1)
    refine gp_aload_n dX9_addsChild_49 rfl ?_
    refine gp_giv dX9_addsChild_50 mf_9_117 (by decide) (by first | rfl | assumption | (simp only [*]; done)) (by first | exact m0 | exact m1 | exact rfl) ?_
    refine gp_goto (t := 57) dX9_addsChild_53 (by decide) ?_
    refine gp_ias dX9_addsChild_57 (by first | rfl | assumption | (simp only [*]; done)) (by first | rfl | assumption | (simp only [*]; done)) ?_
    refine gp_aload_n dX9_addsChild_58 rfl ?_
    refine gp_gr dX9_addsChild_59 mf_9_44 rfl (by first | rfl | assumption | (simp only [*]; done)) (by first | rfl | assumption | (simp only [*]; done)) ?_
    refine gp_aload_n dX9_addsChild_62 rfl ?_
    refine gp_giv dX9_addsChild_63 mf_9_117 (by decide) (by first | rfl | assumption | (simp only [*]; done)) (by first | exact m0 | exact m1 | exact rfl) ?_
    refine gp_pu (st' := .int (0) :: _) dX9_addsChild_66 rfl ?_
    refine gp_ias dX9_addsChild_67 (by first | rfl | assumption | (simp only [*]; done)) (by first | rfl | assumption | (simp only [*]; done)) ?_
    refine gp_aload_n dX9_addsChild_68 rfl ?_
    refine gp_gr dX9_addsChild_69 mf_9_47 rfl (by first | rfl | assumption | (simp only [*]; done)) (by first | rfl | assumption | (simp only [*]; done)) ?_
    refine gp_aload_n dX9_addsChild_72 rfl ?_
    refine gp_giv dX9_addsChild_73 mf_9_117 (by decide) (by first | rfl | assumption | (simp only [*]; done)) (by first | exact m0 | exact m1 | exact rfl) ?_
    refine gp_pu (st' := .int (0) :: _) dX9_addsChild_76 rfl ?_
    refine gp_ias dX9_addsChild_77 (by first | rfl | assumption | (simp only [*]; done)) (by first | rfl | assumption | (simp only [*]; done)) ?_
    refine gp_aload_n dX9_addsChild_78 rfl ?_
    refine gp_pu dX9_addsChild_79 rfl ?_
    refine gp_giv dX9_addsChild_80 mf_9_117 (by decide) (by first | rfl | assumption | (simp only [*]; done)) (by first | exact m0 | exact m1 | exact rfl) ?_
    refine gp_pu dX9_addsChild_83 rfl ?_
    refine gp_pu (st' := .int (1) :: _) dX9_addsChild_84 rfl ?_
    refine gp_pu (st' := .int _ :: _) dX9_addsChild_85 rfl ?_
    refine gp_pi dX9_addsChild_86 mf_9_117 rfl rfl (by first | rfl | assumption | (simp only [*]; done)) ?_
    refine gp_iret dX9_addsChild_89 rfl ?_
    (refine pX.mk rfl ?_
     have e : nwS N S = nI N := if_pos (Classical.not_not.mp h1)
     unfold v_ch
     rw [e]
     exact (((((((hs.uu (by decide)).uu (by decide)).uu (by decide)).uu (by decide)).uu (by decide)).uu (by decide)).uu (by decide)))

set_option maxHeartbeats 400000 in
theorem ml_child (d : Nat) (v : vN I N S) (hs : mR I C J) {k a l : Int32} : cP (d + 2) 144 [.ref 108, .int k, .int a, .int l] (mm_sh, mm_R, J, L) (pX (some (.int (vq (w_ch N k a l) (nI N)))) (lL (w_ch N k a l) L L) (mR (uM (w_ch N k a l) (v_ch I N S k a l) I) C)) := by
  have m0 : J 108 0 = nI N := (hs.r (by decide)).trans v.2.2.1
  have m1 : J 108 1 = nI S := (hs.r (by decide)).trans v.2.2.2.1
  refine cP.of_gP (d := d + 1) me_144 ⟨Nat.le_of_ble_eq_true rfl, rfl⟩ ?_
  show gP mm_cs0 _ _ _ _ _ _ [some (.ref _), some (.int _), some (.int _), some (.int _)] [] _ _
  refine gp_iload_n dX9_child_0 rfl ?_
  refine gp_ifc (t := 10) dX9_child_1 (by decide) c1_lt (fun h1 => ?_) (fun h1 => ?_)
  · have h1' := Int32.not_le.mpr h1
    (try simp only [Classical.not_not, m0, m1, n_eq8 v.1] at h1)
    refine gp_aload_n dX9_child_10 rfl ?_
    refine gp_pu (st' := .int (-1) :: _) dX9_child_11 rfl ?_
    refine gp_call (kind := 1) (args := [.ref _, .int _]) (rest := _) dX9_child_12 (Or.inr (Or.inl ⟨rfl, rfl⟩)) mk_9_127 (by decide) me_127 rfl rfl rfl rfl rfl (mm_rc_of (by first | rfl | assumption | (simp only [*]; done))) (ok_X9_no _ _ _ _ (by decide)) rfl ?_
    refine gp_iret dX9_child_15 rfl ?_
    first | (refine uMo ?zqa ?zqc hs; (case zqa => (first | ((simp [w_ch, *]; done)) | (exfalso; first | contradiction | (simp_all; done)))); (case zqc => (unfold isW; decide)))
  · have h1' := Int32.not_lt.mp h1
    (try simp only [Classical.not_not, m0, m1, n_eq8 v.1] at h1)
    refine gp_iload_n dX9_child_4 rfl ?_
    refine gp_pu (st' := .int (6) :: _) dX9_child_5 rfl ?_
    refine gp_icc (t := 16) dX9_child_7 (by decide) c2_le (fun h2 => ?_) (fun h2 => ?_)
    · have h2' := Int32.not_lt.mpr h2
      (try simp only [Classical.not_not, m0, m1, n_eq8 v.1] at h2)
      refine gp_iload_n dX9_child_16 rfl ?_
      refine gp_ifc (t := 37) dX9_child_17 (by decide) c1_lt (fun h3 => ?_) (fun h3 => ?_)
      · have h3' := Int32.not_le.mpr h3
        (try simp only [Classical.not_not, m0, m1, n_eq8 v.1] at h3)
        refine gp_aload_n dX9_child_37 rfl ?_
        refine gp_pu (st' := .int (-6) :: _) dX9_child_38 rfl ?_
        refine gp_call (kind := 1) (args := [.ref _, .int _]) (rest := _) dX9_child_40 (Or.inr (Or.inl ⟨rfl, rfl⟩)) mk_9_127 (by decide) me_127 rfl rfl rfl rfl rfl (mm_rc_of (by first | rfl | assumption | (simp only [*]; done))) (ok_X9_no _ _ _ _ (by decide)) rfl ?_
        refine gp_iret dX9_child_43 rfl ?_
        first | (refine uMo ?zqa ?zqc hs; (case zqa => (first | ((simp [w_ch, *]; done)) | (exfalso; first | contradiction | (simp_all; done)))); (case zqc => (unfold isW; decide)))
      · have h3' := Int32.not_lt.mp h3
        (try simp only [Classical.not_not, m0, m1, n_eq8 v.1] at h3)
        refine gp_iload_n dX9_child_20 rfl ?_
        refine gp_pu (st' := .int (9) :: _) dX9_child_21 rfl ?_
        refine gp_icc (t := 37) dX9_child_23 (by decide) c2_gt (fun h4 => ?_) (fun h4 => ?_)
        · have h4' := Int32.not_le.mpr h4
          (try simp only [Classical.not_not, m0, m1, n_eq8 v.1] at h4)
          refine gp_aload_n dX9_child_37 rfl ?_
          refine gp_pu (st' := .int (-6) :: _) dX9_child_38 rfl ?_
          refine gp_call (kind := 1) (args := [.ref _, .int _]) (rest := _) dX9_child_40 (Or.inr (Or.inl ⟨rfl, rfl⟩)) mk_9_127 (by decide) me_127 rfl rfl rfl rfl rfl (mm_rc_of (by first | rfl | assumption | (simp only [*]; done))) (ok_X9_no _ _ _ _ (by decide)) rfl ?_
          refine gp_iret dX9_child_43 rfl ?_
          first | (refine uMo ?zqa ?zqc hs; (case zqa => (first | ((simp [w_ch, *]; done)) | (exfalso; first | contradiction | (simp_all; done)))); (case zqc => (unfold isW; decide)))
        · have h4' := Int32.not_lt.mp h4
          (try simp only [Classical.not_not, m0, m1, n_eq8 v.1] at h4)
          refine gp_iload_n dX9_child_26 rfl ?_
          refine gp_pu (st' := .int (1) :: _) dX9_child_27 rfl ?_
          refine gp_icc (t := 37) dX9_child_28 (by decide) c2_lt (fun h5 => ?_) (fun h5 => ?_)
          · have h5' := Int32.not_le.mpr h5
            (try simp only [Classical.not_not, m0, m1, n_eq8 v.1] at h5)
            refine gp_aload_n dX9_child_37 rfl ?_
            refine gp_pu (st' := .int (-6) :: _) dX9_child_38 rfl ?_
            refine gp_call (kind := 1) (args := [.ref _, .int _]) (rest := _) dX9_child_40 (Or.inr (Or.inl ⟨rfl, rfl⟩)) mk_9_127 (by decide) me_127 rfl rfl rfl rfl rfl (mm_rc_of (by first | rfl | assumption | (simp only [*]; done))) (ok_X9_no _ _ _ _ (by decide)) rfl ?_
            refine gp_iret dX9_child_43 rfl ?_
            first | (refine uMo ?zqa ?zqc hs; (case zqa => (first | ((simp [w_ch, *]; done)) | (exfalso; first | contradiction | (simp_all; done)))); (case zqc => (unfold isW; decide)))
          · have h5' := Int32.not_lt.mp h5
            (try simp only [Classical.not_not, m0, m1, n_eq8 v.1] at h5)
            refine gp_iload_n dX9_child_31 rfl ?_
            refine gp_pu (st' := .int (9) :: _) dX9_child_32 rfl ?_
            refine gp_icc (t := 44) dX9_child_34 (by decide) c2_le (fun h6 => ?_) (fun h6 => ?_)
            · have h6' := Int32.not_lt.mpr h6
              (try simp only [Classical.not_not, m0, m1, n_eq8 v.1] at h6)
              refine gp_aload_n dX9_child_44 rfl ?_
              refine gp_giv dX9_child_45 mf_9_117 (by decide) (by first | rfl | assumption | (simp only [*]; done)) (by first | exact m0 | exact rfl) ?_
              refine gp_pu (st' := .int (8) :: _) dX9_child_48 rfl ?_
              refine gp_icc (t := 62) dX9_child_50 (by decide) c2_ne (fun h7 => ?_) (fun h7 => ?_)
              · (try simp only [Classical.not_not, m0, m1, n_eq8 v.1] at h7)
                refine gp_aload_n dX9_child_62 rfl ?_
                refine gp_iload_n dX9_child_63 rfl ?_
                refine gp_iload_n dX9_child_64 rfl ?_
                refine gp_iload_n dX9_child_65 rfl ?_
                refine gp_callX (kind := 1) (args := [.ref _, .int _, .int _, .int _]) (rest := _) dX9_child_66 (Or.inr (Or.inl ⟨rfl, rfl⟩)) mk_9_148 (by decide) me_142 rfl rfl rfl rfl rfl (mm_rc_of (by first | rfl | assumption | (simp only [*]; done))) (ml_addsChild _ v hs (by assumption)) ?_
                intro K1 hK1
                refine gp_iret dX9_child_69 rfl ?_
                first | (refine uMk ?zqa ?zqb hK1; (case zqa => (first | ((simp [w_ch, *]; done)) | (exfalso; first | contradiction | (simp_all; done)))); (case zqb => (exact rfl)))
              · (try simp only [Classical.not_not, m0, m1, n_eq8 v.1] at h7)
                refine gp_aload_n dX9_child_53 rfl ?_
                refine gp_pu (st' := .int (-7) :: _) dX9_child_54 rfl ?_
                refine gp_call (kind := 1) (args := [.ref _, .int _]) (rest := _) dX9_child_56 (Or.inr (Or.inl ⟨rfl, rfl⟩)) mk_9_127 (by decide) me_127 rfl rfl rfl rfl rfl (mm_rc_of (by first | rfl | assumption | (simp only [*]; done))) (ok_X9_no _ _ _ _ (by decide)) rfl ?_
                refine gp_goto (t := 69) dX9_child_59 (by decide) ?_
                refine gp_iret dX9_child_69 rfl ?_
                first | (refine uMo ?zqa ?zqc hs; (case zqa => (first | ((simp [w_ch, *]; done)) | (exfalso; first | contradiction | (simp_all; done)))); (case zqc => (unfold isW; decide)))
            · have h6' := Int32.not_le.mp h6
              (try simp only [Classical.not_not, m0, m1, n_eq8 v.1] at h6)
              refine gp_aload_n dX9_child_37 rfl ?_
              refine gp_pu (st' := .int (-6) :: _) dX9_child_38 rfl ?_
              refine gp_call (kind := 1) (args := [.ref _, .int _]) (rest := _) dX9_child_40 (Or.inr (Or.inl ⟨rfl, rfl⟩)) mk_9_127 (by decide) me_127 rfl rfl rfl rfl rfl (mm_rc_of (by first | rfl | assumption | (simp only [*]; done))) (ok_X9_no _ _ _ _ (by decide)) rfl ?_
              refine gp_iret dX9_child_43 rfl ?_
              first | (refine uMo ?zqa ?zqc hs; (case zqa => (first | ((simp [w_ch, *]; done)) | (exfalso; first | contradiction | (simp_all; done)))); (case zqc => (unfold isW; decide)))
    · have h2' := Int32.not_le.mp h2
      (try simp only [Classical.not_not, m0, m1, n_eq8 v.1] at h2)
      refine gp_aload_n dX9_child_10 rfl ?_
      refine gp_pu (st' := .int (-1) :: _) dX9_child_11 rfl ?_
      refine gp_call (kind := 1) (args := [.ref _, .int _]) (rest := _) dX9_child_12 (Or.inr (Or.inl ⟨rfl, rfl⟩)) mk_9_127 (by decide) me_127 rfl rfl rfl rfl rfl (mm_rc_of (by first | rfl | assumption | (simp only [*]; done))) (ok_X9_no _ _ _ _ (by decide)) rfl ?_
      refine gp_iret dX9_child_15 rfl ?_
      first | (refine uMo ?zqa ?zqc hs; (case zqa => (first | ((simp [w_ch, *]; done)) | (exfalso; first | contradiction | (simp_all; done)))); (case zqc => (unfold isW; decide)))

theorem eq_child (k a l : Int32) : eqc 67 144 [.int k, .int a, .int l] := by
  refine eqc_u fun I L hR => ?_
  have hR0 := hR
  obtain ⟨N, S, hb, hS, hL, hK, hT, hW, hE⟩ := hR
  refine ⟨_, w_ch N k a l, u_ch I 1 N S k a l, v_ch I N S k a l, (fun L => L), (fun L => L), w_ch_w N k a l, fun hw => ?_, cl_child 37 hb, fun C J K hs => ml_child 38 hb.1 hs, fun hw => ?_⟩
  · have hN8 := hb.n.1
    intro k hk
    unfold u_ch
    rw [nI_clamp (by omega), mm_u_k _ _ _ (by omega), mm_u_k _ _ _ (by omega), mm_u_k _ _ _ (by omega), mm_u_k _ _ _ (by omega), mm_u_k _ _ _ (by omega), mm_u_k _ _ _ (by omega), mm_u_k _ _ _ (by omega)]
  · obtain ⟨x, y, z, c⟩ := w_ch_0 hw
    have hN8 := hb.n.1
    have e := nI_clamp (n := N) (by omega)
    refine hR0.now2 (N1 := N + 1) (S1 := S) (vN_ch hb.1 (by omega) x y z) (rF_ch hb.2 (by omega) k a l) ?_ (fun k a b => ?_) (fun k a b => ?_) ?_ ?_ ?_
    · rw [hb.n.2.2.1, show v_ch I N S k a l 108 0 = nI N + 1 from mm_u_s _ _ _ _, nI_1]
      exact nI_le (by omega) (by omega)
    · unfold u_ch
      rw [e, mm_u_k _ _ _ (by omega), mm_u_k _ _ _ (by omega), mm_u_k _ _ _ (by omega), mm_u_k _ _ _ (by omega), mm_u_k _ _ _ (by omega), mm_u_k _ _ _ (by omega), mm_u_k _ _ _ (by omega)]
    · unfold v_ch
      rw [mm_u_k _ _ _ (by omega), mm_u_k _ _ _ (by omega), mm_u_k _ _ _ (by omega), mm_u_k _ _ _ (by omega), mm_u_k _ _ _ (by omega), mm_u_k _ _ _ (by omega), mm_u_k _ _ _ (by omega)]
    · rfl
    · rfl
    · rfl
end P78
