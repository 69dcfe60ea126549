/-! PUBLIC METHODS: meant, judge -/
section P77
variable {I C J : pI} {L : pL} {N S : Nat}

theorem eq_meant (s : Int32) : eqc 90 204 [.int s] := by
  refine eqc_q fun I L hR => ?_
  obtain ⟨N, S, hb, hS, hL, hK, hT, hW, hE⟩ := hR
  refine ⟨_, w_me I N s, w_me_w I N s, cl_meant 33 hb hS hL, fun C J hs => ml_meant 32 hb.1 hs hS⟩

def y_jd (a : Int32) (T U : Nat → Int32) : Nat → Nat → Int32 → Int32 → Int32
  | 0, _, _, _ => -1
  | n + 1, i, w, b =>
    if ¬ (0 ≤ U i ∧ U i < a) then nI i else if (w >>> (U i &&& 31)) &&& 1 = 1 then nI i else if T (U i).toNatClampNeg < b then nI i else y_jd a T U n (i + 1) (w ||| ((1 : Int32) <<< (U i &&& 31))) (T (U i).toNatClampNeg)
theorem x_wr_jd (hb : bR I N S) (hS : ∀ s, s < 8 → rSh I s) (hL : rL L) {s : Int32} (h : m_want I s = 0) (n : Nat) : ∀ (i : Nat) (w b : Int32) (M : pI), sc I M → nI (i + n) ≤ I 120 s.toNatClampNeg → i + n ≤ 8 → (x_wr L (76 + 2 * s.toNatClampNeg) n i w b M).1 = y_jd (nI N) (tC I) (tld L s.toNatClampNeg) n i w b ∧ sc I (x_wr L (76 + 2 * s.toNatClampNeg) n i w b M).2 := by
  induction n with
  | zero => intro i w b M hs _ _; exact ⟨rfl, hs⟩
  | succ n ih =>
    intro i w b M hs hn h8
    have e := x_told_e hS hL hs h (i := i) (Int32.lt_of_lt_of_le (nI_lt (by omega) (by omega)) hn) (by omega)
    unfold x_wr y_jd
    rw [e, hb.c11 hs]
    generalize tld L s.toNatClampNeg i = u at *
    by_cases z : 0 ≤ u ∧ u < nI N
    · have z' : ¬ ¬ (0 ≤ u ∧ u < nI N) := fun q => q z
      by_cases y : (w >>> (u &&& 31)) &&& 1 = 1
      · have zy : ¬ (0 ≤ u ∧ u < nI N) ∨ (w >>> (u &&& 31)) &&& 1 = 1 := Or.inr y
        rw [if_pos zy, if_neg z', if_pos y]; exact ⟨rfl, hs⟩
      · have zy : ¬ (¬ (0 ≤ u ∧ u < nI N) ∨ (w >>> (u &&& 31)) &&& 1 = 1) := by
          intro q
          rcases q with q | q
          · exact q z
          · exact y q
        rw [if_neg zy, if_neg z', if_neg y, tim_of hb hs z]
        by_cases x : tC I u.toNatClampNeg < b
        · rw [if_pos x, if_pos x]; exact ⟨rfl, hs.take _⟩
        · rw [if_neg x, if_neg x]
          exact ih (i + 1) _ _ _ (hs.take _) (by rw [show i + 1 + n = i + (n + 1) by omega]; exact hn) (by omega)
    · have zy : ¬ (0 ≤ u ∧ u < nI N) ∨ (w >>> (u &&& 31)) &&& 1 = 1 := Or.inl z
      rw [if_pos zy, if_pos z]; exact ⟨rfl, hs⟩
def w_jd (I : pI) (s n : Int32) : Int32 := if ¬ m_want I s = 0 then m_want I s else if n < 0 then -4 else if I 120 s.toNatClampNeg < n then -5 else if 8 < n then -6 else 0
theorem w_jd_w (I : pI) (s n : Int32) : w_jd I s n = 0 ∨ isW (w_jd I s n) := by
  unfold w_jd
  split
  · exact m_want_w I s
  · (repeat' split) <;> first | exact Or.inl rfl | (right; unfold isW; decide)
theorem n_8 {n : Int32} (h0 : ¬ n < 0) (h8 : n ≤ 8) : n.toNatClampNeg ≤ 8 ∧ nI n.toNatClampNeg = n := by
  refine ⟨?_, nI_cl (Int32.not_lt.mp h0)⟩
  rw [ti_le, show (8 : Int32).toInt = 8 from by decide] at h8
  unfold Int32.toNatClampNeg
  omega
theorem ct_wrongIn (d : Nat) (hb : bR I N S) (hS : ∀ s, s < 8 → rSh I s) (hL : rL L) {s n : Int32} (h : m_want I s = 0) (h0 : ¬ n < 0) (h8 : n ≤ 8) (hn : n ≤ I 120 s.toNatClampNeg) : cP (d + 6) 121 [.ref 0, .ref (76 + 2 * s.toNatClampNeg), .int n] (mm_sh, mm_R, I, L) (pX (some (.int (y_jd (nI N) (tC I) (tld L s.toNatClampNeg) n.toNatClampNeg 0 0 0))) L (sc I)) := by
  obtain ⟨r1, r2, r3, r4, r5, r6⟩ := want_0 hS h
  obtain ⟨a, b⟩ := n_8 h0 h8
  have := ok_X8_wrongIn d I L N n.toNatClampNeg (by omega) (hb.fOk (sc.rf I)) (76 + 2 * s.toNatClampNeg) (sh_s r1).2.2.1 (by omega) (by rw [r5, ti_le]; exact r6.2)
  rw [b] at this
  obtain ⟨c, e⟩ := x_wr_jd hb hS hL h n.toNatClampNeg 0 0 0 I (sc.rf I) (by rw [Nat.zero_add, b]; exact hn) (by omega)
  exact cP.of_x this (by rw [c]) e
theorem m_10 (m : Int32) : -10 + m = m - 10 := by
  rw [Int32.sub_eq_add_neg, Int32.add_comm]

set_option maxHeartbeats 400000 in
theorem cl_judge (d : Nat) (hb : bR I N S) (hS : ∀ s, s < 8 → rSh I s) (hL : rL L) {s n : Int32} : cP (d + 7) 89 [.ref 0, .int s, .int n] (mm_sh, mm_R, I, L) (pX (some (.int (vt (w_jd I s n) (y_jd (nI N) (tC I) (tld L s.toNatClampNeg) n.toNatClampNeg 0 0 0)))) L (sc (rI I (w_jd I s n)))) := by
  have hs := sc.rf I
  have e11 : I 1 1 = nI N := hb.c11 hs
  have e13 : I 1 3 = nI S := hb.c13 hs
  refine cP.of_gP (d := d + 6) me_89 ⟨Nat.le_of_ble_eq_true rfl, rfl⟩ ?_
  show gP mm_cs0 _ _ _ _ _ _ [some (.ref _), some (.int _), some (.int _), none] [] _ _
  refine gp_aload_n dX8_judge_0 rfl ?_
  refine gp_iload_n dX8_judge_1 rfl ?_
  refine gp_callX (kind := 1) (args := [.ref _, .int _]) (rest := _) dX8_judge_2 (Or.inr (Or.inl ⟨rfl, rfl⟩)) mk_8_87 (by decide) me_107 rfl rfl rfl rfl rfl (mm_rc_of (by first | rfl | assumption | (simp only [*]; done))) (ct_why _ hb hS) ?_
  intro K1 hK1
  rw [hK1]
  refine gp_istore_n (ls' := [some (.ref _), some (.int _), some (.int _), some (.int _)]) dX8_judge_5 rfl (Nat.le_of_ble_eq_true rfl) ?_
  refine gp_iload_n dX8_judge_6 rfl ?_
  refine gp_ifc (t := 19) dX8_judge_7 (by decide) c1_eq (fun h1 => ?_) (fun h1 => ?_)
  · (try simp only [bi_0, Classical.not_not, Int32.not_le] at h1)
    obtain ⟨zqr1, zqr2, zqr3, zqr4, zqr5, zqr6⟩ := want_0 hS (s := s) (by assumption)
    obtain ⟨zqs1, zqs2, zqs3, zqs4, zqs5⟩ := sh_s zqr1
    refine gp_iload_n dX8_judge_19 rfl ?_
    refine gp_ifc (t := 30) dX8_judge_20 (by decide) c1_ge (fun h2 => ?_) (fun h2 => ?_)
    · have h2' := Int32.not_lt.mpr h2
      (try simp only [bi_0, Classical.not_not, Int32.not_le] at h2)
      refine gp_iload_n dX8_judge_30 rfl ?_
      refine gp_aload_n dX8_judge_31 rfl ?_
      refine gp_gr dX8_judge_32 mf_8_24 rfl (by first | rfl | assumption | (simp only [*]; done)) (by first | rfl | assumption | (simp only [*]; done)) ?_
      refine gp_iload_n dX8_judge_35 rfl ?_
      refine gp_aal dX8_judge_36 (by first | rfl | assumption | (simp only [*]; done)) (by decide) (by first | rfl | assumption | (simp only [*]; done)) (by first | rfl | assumption | (simp only [*]; done)) ?_
      refine gp_giv dX8_judge_37 mf_8_326 (by decide) (by first | rfl | assumption | (simp only [*]; done)) (by first | exact zqr5 | exact rfl) ?_
      refine gp_icc (t := 50) dX8_judge_40 (by decide) c2_le (fun h3 => ?_) (fun h3 => ?_)
      · have h3' := Int32.not_lt.mpr h3
        (try simp only [bi_0, Classical.not_not, Int32.not_le] at h3)
        refine gp_iload_n dX8_judge_50 rfl ?_
        refine gp_pu (st' := .int (8) :: _) dX8_judge_51 rfl ?_
        refine gp_icc (t := 63) dX8_judge_53 (by decide) c2_le (fun h4 => ?_) (fun h4 => ?_)
        · have h4' := Int32.not_lt.mpr h4
          (try simp only [bi_0, Classical.not_not, Int32.not_le] at h4)
          refine gp_aload_n dX8_judge_63 rfl ?_
          refine gp_aload_n dX8_judge_64 rfl ?_
          refine gp_gr dX8_judge_65 mf_8_24 rfl (by first | rfl | assumption | (simp only [*]; done)) (by first | rfl | assumption | (simp only [*]; done)) ?_
          refine gp_iload_n dX8_judge_68 rfl ?_
          refine gp_aal dX8_judge_69 (by first | rfl | assumption | (simp only [*]; done)) (by decide) (by first | rfl | assumption | (simp only [*]; done)) (by first | rfl | assumption | (simp only [*]; done)) ?_
          refine gp_iload_n dX8_judge_70 rfl ?_
          refine gp_callX (kind := 1) (args := [.ref _, .ref _, .int _]) (rest := _) dX8_judge_71 (Or.inr (Or.inl ⟨rfl, rfl⟩)) mk_8_329 (by decide) me_121 rfl rfl rfl rfl rfl (mm_rc_of (by first | rfl | assumption | (simp only [*]; done))) (ct_wrongIn _ hb hS hL (by assumption) (by assumption) (by assumption) (by assumption)) ?_
          intro K2 hK2
          refine gp_iret dX8_judge_74 rfl ?_
          first | (refine cOt ?zqa ?zqb hK2; (case zqa => (first | ((simp [w_jd, *]; done)) | (exfalso; first | contradiction | (simp_all; done)))); (case zqb => (exact rfl)))
        · have h4' := Int32.not_le.mp h4
          (try simp only [bi_0, Classical.not_not, Int32.not_le] at h4)
          refine gp_aload_n dX8_judge_56 rfl ?_
          refine gp_pu (st' := .int (-16) :: _) dX8_judge_57 rfl ?_
          refine gp_call (kind := 1) (args := [.ref _, .int _]) (rest := _) dX8_judge_59 (Or.inr (Or.inl ⟨rfl, rfl⟩)) mk_8_79 (by decide) me_100 rfl rfl rfl rfl rfl (mm_rc_of (by first | rfl | assumption | (simp only [*]; done))) (ok_X8_refuse _ _ _ _) rfl ?_
          refine gp_iret dX8_judge_62 rfl ?_
          first | (refine cNt (n := m_want I s) ?zqa ?zqc ?zqd; (case zqd => exact m_10 _); (case zqa => (simp [w_jd, *]; done)); (case zqc => exact want_w (by assumption))) | (refine cNt (n := (-4)) ?zqa ?zqc ?zqd; (case zqd => decide); (case zqa => (first | ((simp [w_jd, *]; done)) | (exfalso; first | contradiction | (simp_all; done)))); (case zqc => (unfold isW; decide))) | (refine cNt (n := (-5)) ?zqa ?zqc ?zqd; (case zqd => decide); (case zqa => (first | ((simp [w_jd, *]; done)) | (exfalso; first | contradiction | (simp_all; done)))); (case zqc => (unfold isW; decide))) | (refine cNt (n := (-6)) ?zqa ?zqc ?zqd; (case zqd => decide); (case zqa => (first | ((simp [w_jd, *]; done)) | (exfalso; first | contradiction | (simp_all; done)))); (case zqc => (unfold isW; decide)))
      · have h3' := Int32.not_le.mp h3
        (try simp only [bi_0, Classical.not_not, Int32.not_le] at h3)
        refine gp_aload_n dX8_judge_43 rfl ?_
        refine gp_pu (st' := .int (-15) :: _) dX8_judge_44 rfl ?_
        refine gp_call (kind := 1) (args := [.ref _, .int _]) (rest := _) dX8_judge_46 (Or.inr (Or.inl ⟨rfl, rfl⟩)) mk_8_79 (by decide) me_100 rfl rfl rfl rfl rfl (mm_rc_of (by first | rfl | assumption | (simp only [*]; done))) (ok_X8_refuse _ _ _ _) rfl ?_
        refine gp_iret dX8_judge_49 rfl ?_
        first | (refine cNt (n := m_want I s) ?zqa ?zqc ?zqd; (case zqd => exact m_10 _); (case zqa => (simp [w_jd, *]; done)); (case zqc => exact want_w (by assumption))) | (refine cNt (n := (-4)) ?zqa ?zqc ?zqd; (case zqd => decide); (case zqa => (first | ((simp [w_jd, *]; done)) | (exfalso; first | contradiction | (simp_all; done)))); (case zqc => (unfold isW; decide))) | (refine cNt (n := (-5)) ?zqa ?zqc ?zqd; (case zqd => decide); (case zqa => (first | ((simp [w_jd, *]; done)) | (exfalso; first | contradiction | (simp_all; done)))); (case zqc => (unfold isW; decide))) | (refine cNt (n := (-6)) ?zqa ?zqc ?zqd; (case zqd => decide); (case zqa => (first | ((simp [w_jd, *]; done)) | (exfalso; first | contradiction | (simp_all; done)))); (case zqc => (unfold isW; decide)))
    · have h2' := Int32.not_le.mp h2
      (try simp only [bi_0, Classical.not_not, Int32.not_le] at h2)
      refine gp_aload_n dX8_judge_23 rfl ?_
      refine gp_pu (st' := .int (-14) :: _) dX8_judge_24 rfl ?_
      refine gp_call (kind := 1) (args := [.ref _, .int _]) (rest := _) dX8_judge_26 (Or.inr (Or.inl ⟨rfl, rfl⟩)) mk_8_79 (by decide) me_100 rfl rfl rfl rfl rfl (mm_rc_of (by first | rfl | assumption | (simp only [*]; done))) (ok_X8_refuse _ _ _ _) rfl ?_
      refine gp_iret dX8_judge_29 rfl ?_
      first | (refine cNt (n := m_want I s) ?zqa ?zqc ?zqd; (case zqd => exact m_10 _); (case zqa => (simp [w_jd, *]; done)); (case zqc => exact want_w (by assumption))) | (refine cNt (n := (-4)) ?zqa ?zqc ?zqd; (case zqd => decide); (case zqa => (first | ((simp [w_jd, *]; done)) | (exfalso; first | contradiction | (simp_all; done)))); (case zqc => (unfold isW; decide))) | (refine cNt (n := (-5)) ?zqa ?zqc ?zqd; (case zqd => decide); (case zqa => (first | ((simp [w_jd, *]; done)) | (exfalso; first | contradiction | (simp_all; done)))); (case zqc => (unfold isW; decide))) | (refine cNt (n := (-6)) ?zqa ?zqc ?zqd; (case zqd => decide); (case zqa => (first | ((simp [w_jd, *]; done)) | (exfalso; first | contradiction | (simp_all; done)))); (case zqc => (unfold isW; decide)))
  · (try simp only [bi_0, Classical.not_not, Int32.not_le] at h1)
    refine gp_aload_n dX8_judge_10 rfl ?_
    refine gp_pu (st' := .int (-10) :: _) dX8_judge_11 rfl ?_
    refine gp_iload_n dX8_judge_13 rfl ?_
    refine gp_pu (st' := .int _ :: _) dX8_judge_14 rfl ?_
    refine gp_call (kind := 1) (args := [.ref _, .int _]) (rest := _) dX8_judge_15 (Or.inr (Or.inl ⟨rfl, rfl⟩)) mk_8_79 (by decide) me_100 rfl rfl rfl rfl rfl (mm_rc_of (by first | rfl | assumption | (simp only [*]; done))) (ok_X8_refuse _ _ _ _) rfl ?_
    refine gp_iret dX8_judge_18 rfl ?_
    first | (refine cNt (n := m_want I s) ?zqa ?zqc ?zqd; (case zqd => exact m_10 _); (case zqa => (simp [w_jd, *]; done)); (case zqc => exact want_w (by assumption))) | (refine cNt (n := (-4)) ?zqa ?zqc ?zqd; (case zqd => decide); (case zqa => (first | ((simp [w_jd, *]; done)) | (exfalso; first | contradiction | (simp_all; done)))); (case zqc => (unfold isW; decide))) | (refine cNt (n := (-5)) ?zqa ?zqc ?zqd; (case zqd => decide); (case zqa => (first | ((simp [w_jd, *]; done)) | (exfalso; first | contradiction | (simp_all; done)))); (case zqc => (unfold isW; decide))) | (refine cNt (n := (-6)) ?zqa ?zqc ?zqd; (case zqd => decide); (case zqa => (first | ((simp [w_jd, *]; done)) | (exfalso; first | contradiction | (simp_all; done)))); (case zqc => (unfold isW; decide)))

set_option maxHeartbeats 400000 in
theorem lp_mjud (d : Nat) (v : vN I N S) {s nn : Int32} (hs8 : 0 ≤ s ∧ s < 8) (n0 : Nat) (hn0 : n0 ≤ 8) (hnn : nn = nI n0) : ∀ (n i : Nat) (w b : Int32) (v7 : Option Value) (J : pI), i + n = n0 → mR I C J → gP mm_cs0 (d + 7) 9 false (some .int) cX9_judge 66 [some (.ref 108), some (.int s), some (.int nn), some (.int 0), some (.int w), some (.int b), some (.int (nI i)), v7] [] (mm_sh, mm_R, J, L) (pX (some (.int (y_jd (nI N) (tC I) (tld L s.toNatClampNeg) n i w b))) L (mR I C)) := by
  intro n
  induction n with
  | zero =>
    intro i w b v7 J hi hsJ
    obtain rfl : i = n0 := by omega
    have hc1 : nn ≤ nI i := by rw [hnn]; exact Int32.le_refl _
    refine gp_iload dX9_judge_66 rfl ?_
    refine gp_iload_n dX9_judge_68 rfl ?_
    refine gp_icc (t := 138) dX9_judge_69 (by decide) c2_ge (fun h1 => ?_) (fun h1 => ?_)
    · have h1' := Int32.not_lt.mpr h1
      refine gp_pu (st' := .int (-1) :: _) dX9_judge_138 rfl ?_
      refine gp_iret dX9_judge_139 rfl ?_
      exact pX.mk rfl hsJ
    · exact absurd hc1 h1
  | succ n ih =>
    intro i w b v7 J hi hsJ
    have hc1 : ¬ nn ≤ nI i := by rw [hnn]; exact nI_ge (by omega) (by omega)
    refine gp_iload dX9_judge_66 rfl ?_
    refine gp_iload_n dX9_judge_68 rfl ?_
    refine gp_icc (t := 138) dX9_judge_69 (by decide) c2_ge (fun h1 => ?_) (fun h1 => ?_)
    · exact absurd h1 hc1
    · have h1' := Int32.not_le.mp h1
      (try simp only [bi_0, Classical.not_not, mK] at h1)
      refine gp_aload_n dX9_judge_72 rfl ?_
      refine gp_iload_n dX9_judge_73 rfl ?_
      refine gp_iload dX9_judge_74 rfl ?_
      refine gp_callX (kind := 1) (args := [.ref _, .int _, .int _]) (rest := _) dX9_judge_76 (Or.inr (Or.inl ⟨rfl, rfl⟩)) mk_9_333 (by decide) me_141 rfl rfl rfl rfl rfl (mm_rc_of (by first | rfl | assumption | (simp only [*]; done))) (ml_intAt _ v hsJ hs8 (by omega)) ?_
      intro K1 hK1
      have mK : K1 108 0 = nI N := (hK1.r (by decide)).trans v.2.2.1
      refine gp_istore (ls' := [some (.ref _), some (.int _), some (.int _), some (.int _), some (.int _), some (.int _), some (.int _), some (.int _)]) dX9_judge_79 rfl (Nat.le_of_ble_eq_true rfl) ?_
      refine gp_aload_n dX9_judge_81 rfl ?_
      refine gp_iload dX9_judge_82 rfl ?_
      refine gp_call (kind := 1) (args := [.ref _, .int _]) (rest := _) dX9_judge_84 (Or.inr (Or.inl ⟨rfl, rfl⟩)) mk_9_131 (by decide) me_130 rfl rfl rfl rfl rfl (mm_rc_of (by first | rfl | assumption | (simp only [*]; done))) (ok_X9_isChild _ _ _ _) rfl ?_
      refine gp_ifc (t := 112) dX9_judge_87 (by decide) c1_eq (fun h2 => ?_) (fun h2 => ?_)
      · (try simp only [bi_0, Classical.not_not, mK] at h2)
        refine gp_iload dX9_judge_112 rfl ?_
        refine gp_iret dX9_judge_114 rfl ?_
        first
         | (refine pX.mk (congrArg some (congrArg Value.int ?zqa)) hK1; (case zqa => (rw [y_jd, if_pos h2])))
         | (refine pX.mk (congrArg some (congrArg Value.int ?zqa)) hK1; (case zqa => (rw [y_jd, if_neg (fun q => q h2), if_pos h3])))
         | (refine pX.mk (congrArg some (congrArg Value.int ?zqa)) hK2; (case zqa => (rw [y_jd, if_neg (fun q => q h2), if_neg h3, if_pos h4'])))
      · (try simp only [bi_0, Classical.not_not, mK] at h2)
        refine gp_iload dX9_judge_90 rfl ?_
        refine gp_iload dX9_judge_92 rfl ?_
        refine gp_pu (st' := .int _ :: _) dX9_judge_94 rfl ?_
        refine gp_pu (st' := .int (1) :: _) dX9_judge_95 rfl ?_
        refine gp_pu (st' := .int _ :: _) dX9_judge_96 rfl ?_
        refine gp_pu (st' := .int (1) :: _) dX9_judge_97 rfl ?_
        refine gp_icc (t := 112) dX9_judge_98 (by decide) c2_eq (fun h3 => ?_) (fun h3 => ?_)
        · (try simp only [bi_0, Classical.not_not, mK] at h3)
          refine gp_iload dX9_judge_112 rfl ?_
          refine gp_iret dX9_judge_114 rfl ?_
          first
           | (refine pX.mk (congrArg some (congrArg Value.int ?zqa)) hK1; (case zqa => (rw [y_jd, if_pos h2])))
           | (refine pX.mk (congrArg some (congrArg Value.int ?zqa)) hK1; (case zqa => (rw [y_jd, if_neg (fun q => q h2), if_pos h3])))
           | (refine pX.mk (congrArg some (congrArg Value.int ?zqa)) hK2; (case zqa => (rw [y_jd, if_neg (fun q => q h2), if_neg h3, if_pos h4'])))
        · (try simp only [bi_0, Classical.not_not, mK] at h3)
          refine gp_aload_n dX9_judge_101 rfl ?_
          refine gp_iload dX9_judge_102 rfl ?_
          refine gp_callX (kind := 1) (args := [.ref _, .int _]) (rest := _) dX9_judge_104 (Or.inr (Or.inl ⟨rfl, rfl⟩)) mk_9_293 (by decide) me_180 rfl rfl rfl rfl rfl (mm_rc_of (by first | rfl | assumption | (simp only [*]; done))) (mt_inOf _ _ v hK1 h2) ?_
          intro K2 hK2
          refine gp_iload dX9_judge_107 rfl ?_
          refine gp_icc (t := 115) dX9_judge_109 (by decide) c2_ge (fun h4 => ?_) (fun h4 => ?_)
          · have h4' := Int32.not_lt.mpr h4
            (try simp only [bi_0, Classical.not_not, mK] at h4)
            refine gp_iload dX9_judge_115 rfl ?_
            refine gp_pu (st' := .int (1) :: _) dX9_judge_117 rfl ?_
            refine gp_iload dX9_judge_118 rfl ?_
            refine gp_pu (st' := .int _ :: _) dX9_judge_120 rfl ?_
            refine gp_pu (st' := .int _ :: _) dX9_judge_121 rfl ?_
            refine gp_istore (ls' := [some (.ref _), some (.int _), some (.int _), some (.int _), some (.int _), some (.int _), some (.int _), some (.int _)]) dX9_judge_122 rfl (Nat.le_of_ble_eq_true rfl) ?_
            refine gp_aload_n dX9_judge_124 rfl ?_
            refine gp_iload dX9_judge_125 rfl ?_
            refine gp_callX (kind := 1) (args := [.ref _, .int _]) (rest := _) dX9_judge_127 (Or.inr (Or.inl ⟨rfl, rfl⟩)) mk_9_293 (by decide) me_180 rfl rfl rfl rfl rfl (mm_rc_of (by first | rfl | assumption | (simp only [*]; done))) (mt_inOf _ _ v hK2 h2) ?_
            intro K3 hK3
            refine gp_istore (ls' := [some (.ref _), some (.int _), some (.int _), some (.int _), some (.int _), some (.int _), some (.int _), some (.int _)]) dX9_judge_130 rfl (Nat.le_of_ble_eq_true rfl) ?_
            refine gp_iinc (v := (1)) (ls' := [some (.ref _), some (.int _), some (.int _), some (.int _), some (.int _), some (.int _), some (.int _), some (.int _)]) dX9_judge_132 rfl (by decide) rfl ?_
            refine gp_goto (t := 66) dX9_judge_135 (by decide) ?_
            (rw [nI_1]
             have ih' := ih (i + 1) (w ||| ((1 : Int32) <<< (tld L s.toNatClampNeg i &&& 31))) (tC I (tld L s.toNatClampNeg i).toNatClampNeg) (some (.int (tld L s.toNatClampNeg i))) K3 (by omega) hK3
             rw [show y_jd (nI N) (tC I) (tld L s.toNatClampNeg) (n + 1) i w b = y_jd (nI N) (tC I) (tld L s.toNatClampNeg) n (i + 1) (w ||| ((1 : Int32) <<< (tld L s.toNatClampNeg i &&& 31))) (tC I (tld L s.toNatClampNeg i).toNatClampNeg) from by rw [y_jd, if_neg (fun q => q h2), if_neg h3, if_neg (Int32.not_lt.mpr h4)]]
             exact ih')
          · have h4' := Int32.not_le.mp h4
            (try simp only [bi_0, Classical.not_not, mK] at h4)
            refine gp_iload dX9_judge_112 rfl ?_
            refine gp_iret dX9_judge_114 rfl ?_
            first
             | (refine pX.mk (congrArg some (congrArg Value.int ?zqa)) hK1; (case zqa => (rw [y_jd, if_pos h2])))
             | (refine pX.mk (congrArg some (congrArg Value.int ?zqa)) hK1; (case zqa => (rw [y_jd, if_neg (fun q => q h2), if_pos h3])))
             | (refine pX.mk (congrArg some (congrArg Value.int ?zqa)) hK2; (case zqa => (rw [y_jd, if_neg (fun q => q h2), if_neg h3, if_pos h4'])))

set_option maxHeartbeats 400000 in
theorem ml_judge (d : Nat) (v : vN I N S) (hs : mR I C J) (hS : ∀ s, s < 8 → rSh I s) {s n : Int32} : cP (d + 8) 203 [.ref 108, .int s, .int n] (mm_sh, mm_R, J, L) (pX (some (.int (vt (w_jd I s n) (y_jd (nI N) (tC I) (tld L s.toNatClampNeg) n.toNatClampNeg 0 0 0)))) L (mR (rM I (w_jd I s n)) C)) := by
  have m0 : J 108 0 = nI N := (hs.r (by decide)).trans v.2.2.1
  have m1 : J 108 1 = nI S := (hs.r (by decide)).trans v.2.2.2.1
  refine cP.of_gP (d := d + 7) me_203 ⟨Nat.le_of_ble_eq_true rfl, rfl⟩ ?_
  show gP mm_cs0 _ _ _ _ _ _ [some (.ref _), some (.int _), some (.int _), none, none, none, none, none] [] _ _
  refine gp_aload_n dX9_judge_0 rfl ?_
  refine gp_iload_n dX9_judge_1 rfl ?_
  refine gp_callX (kind := 1) (args := [.ref _, .int _]) (rest := _) dX9_judge_2 (Or.inr (Or.inl ⟨rfl, rfl⟩)) mk_9_214 (by decide) me_140 rfl rfl rfl rfl rfl (mm_rc_of (by first | rfl | assumption | (simp only [*]; done))) (ml_wanted _ v hs) ?_
  intro K1 hK1
  refine gp_istore_n (ls' := [some (.ref _), some (.int _), some (.int _), some (.int _), none, none, none, none]) dX9_judge_5 rfl (Nat.le_of_ble_eq_true rfl) ?_
  refine gp_iload_n dX9_judge_6 rfl ?_
  refine gp_ifc (t := 47) dX9_judge_7 (by decide) c1_ne (fun h1 => ?_) (fun h1 => ?_)
  · (try rw [Classical.not_not] at h1)
    refine gp_iload_n dX9_judge_47 rfl ?_
    refine gp_ifc (t := 57) dX9_judge_48 (by decide) c1_eq (fun h2 => ?_) (fun h2 => ?_)
    · (try rw [Classical.not_not] at h2)
      refine gp_pu (st' := .int (0) :: _) dX9_judge_57 rfl ?_
      refine gp_istore (ls' := [some (.ref _), some (.int _), some (.int _), some (.int _), some (.int _), none, none, none]) dX9_judge_58 rfl (Nat.le_of_ble_eq_true rfl) ?_
      refine gp_pu (st' := .int (0) :: _) dX9_judge_60 rfl ?_
      refine gp_istore (ls' := [some (.ref _), some (.int _), some (.int _), some (.int _), some (.int _), some (.int _), none, none]) dX9_judge_61 rfl (Nat.le_of_ble_eq_true rfl) ?_
      refine gp_pu (st' := .int (0) :: _) dX9_judge_63 rfl ?_
      refine gp_istore (ls' := [some (.ref _), some (.int _), some (.int _), some (.int _), some (.int _), some (.int _), some (.int _), none]) dX9_judge_64 rfl (Nat.le_of_ble_eq_true rfl) ?_
      (exfalso; first | contradiction | (simp_all; done))

    · (try rw [Classical.not_not] at h2)
      refine gp_aload_n dX9_judge_51 rfl ?_
      refine gp_iload_n dX9_judge_52 rfl ?_
      refine gp_call (kind := 1) (args := [.ref _, .int _]) (rest := _) dX9_judge_53 (Or.inr (Or.inl ⟨rfl, rfl⟩)) mk_9_330 (by decide) me_128 rfl rfl rfl rfl rfl (mm_rc_of (by first | rfl | assumption | (simp only [*]; done))) (ok_X9_noTen _ _ _ _ (by first | decide | exact (want_w (by assumption)).inn)) rfl ?_
      refine gp_iret dX9_judge_56 rfl ?_
      first | (refine mNt ?zqa ?zqc hK1; (case zqa => (first | ((simp [w_jd, *]; done)) | (exfalso; first | contradiction | (simp_all; done)))); (case zqc => (first | (unfold isW; decide) | (exfalso; contradiction) | (exfalso; simp_all; done) | exact want_w (by assumption))))
  · (try rw [Classical.not_not] at h1)
    have zqs1 := (sh_s (want_0 hS (s := s) (by assumption)).1).1
    refine gp_iload_n dX9_judge_10 rfl ?_
    refine gp_ifc (t := 19) dX9_judge_11 (by decide) c1_ge (fun h3 => ?_) (fun h3 => ?_)
    · have h3' := Int32.not_lt.mpr h3
      (try rw [Classical.not_not] at h3)
      refine gp_iload_n dX9_judge_19 rfl ?_
      refine gp_aload_n dX9_judge_20 rfl ?_
      refine gp_gr dX9_judge_21 mf_9_62 rfl (by first | rfl | assumption | (simp only [*]; done)) (by first | rfl | assumption | (simp only [*]; done)) ?_
      refine gp_iload_n dX9_judge_24 rfl ?_
      refine gp_ialv dX9_judge_25 rfl (by first | rfl | assumption | (simp only [*]; done)) (by first | rfl | assumption | (simp only [*]; done)) (by first | exact hK1.1 _ _ rfl | exact rfl) ?_
      refine gp_icc (t := 34) dX9_judge_26 (by decide) c2_le (fun h4 => ?_) (fun h4 => ?_)
      · have h4' := Int32.not_lt.mpr h4
        (try rw [Classical.not_not] at h4)
        refine gp_iload_n dX9_judge_34 rfl ?_
        refine gp_pu (st' := .int (8) :: _) dX9_judge_35 rfl ?_
        refine gp_icc (t := 45) dX9_judge_37 (by decide) c2_le (fun h5 => ?_) (fun h5 => ?_)
        · have h5' := Int32.not_lt.mpr h5
          (try rw [Classical.not_not] at h5)
          refine gp_pu (st' := .int (0) :: _) dX9_judge_45 rfl ?_
          refine gp_istore_n (ls' := [some (.ref _), some (.int _), some (.int _), some (.int _), none, none, none, none]) dX9_judge_46 rfl (Nat.le_of_ble_eq_true rfl) ?_
          refine gp_iload_n dX9_judge_47 rfl ?_
          refine gp_ifc (t := 57) dX9_judge_48 (by decide) c1_eq (fun h6 => ?_) (fun h6 => ?_)
          · (try rw [Classical.not_not] at h6)
            refine gp_pu (st' := .int (0) :: _) dX9_judge_57 rfl ?_
            refine gp_istore (ls' := [some (.ref _), some (.int _), some (.int _), some (.int _), some (.int _), none, none, none]) dX9_judge_58 rfl (Nat.le_of_ble_eq_true rfl) ?_
            refine gp_pu (st' := .int (0) :: _) dX9_judge_60 rfl ?_
            refine gp_istore (ls' := [some (.ref _), some (.int _), some (.int _), some (.int _), some (.int _), some (.int _), none, none]) dX9_judge_61 rfl (Nat.le_of_ble_eq_true rfl) ?_
            refine gp_pu (st' := .int (0) :: _) dX9_judge_63 rfl ?_
            refine gp_istore (ls' := [some (.ref _), some (.int _), some (.int _), some (.int _), some (.int _), some (.int _), some (.int _), none]) dX9_judge_64 rfl (Nat.le_of_ble_eq_true rfl) ?_
            (have zqm := (by assumption : m_want I s = 0)
             have hw : w_jd I s n = 0 := by (first | (simp [w_jd, *]; done) | (simp_all [w_jd]; done))
             obtain ⟨za, zb⟩ := n_8 (n := n) (by assumption) (by assumption)
             rw [hw]
             exact lp_mjud d v (want_0 hS zqm).1 n.toNatClampNeg za zb.symm n.toNatClampNeg 0 0 0 none K1 (by omega) hK1)
          · (try rw [Classical.not_not] at h6)
            refine gp_aload_n dX9_judge_51 rfl ?_
            refine gp_iload_n dX9_judge_52 rfl ?_
            refine gp_call (kind := 1) (args := [.ref _, .int _]) (rest := _) dX9_judge_53 (Or.inr (Or.inl ⟨rfl, rfl⟩)) mk_9_330 (by decide) me_128 rfl rfl rfl rfl rfl (mm_rc_of (by first | rfl | assumption | (simp only [*]; done))) (ok_X9_noTen _ _ _ _ (by first | decide | exact (want_w (by assumption)).inn)) rfl ?_
            refine gp_iret dX9_judge_56 rfl ?_
            first | (refine mNt ?zqa ?zqc hK1; (case zqa => (first | ((simp [w_jd, *]; done)) | (exfalso; first | contradiction | (simp_all; done)))); (case zqc => (first | (unfold isW; decide) | (exfalso; contradiction) | (exfalso; simp_all; done) | exact want_w (by assumption))))
        · have h5' := Int32.not_le.mp h5
          (try rw [Classical.not_not] at h5)
          refine gp_pu (st' := .int (-6) :: _) dX9_judge_40 rfl ?_
          refine gp_goto (t := 46) dX9_judge_42 (by decide) ?_
          refine gp_istore_n (ls' := [some (.ref _), some (.int _), some (.int _), some (.int _), none, none, none, none]) dX9_judge_46 rfl (Nat.le_of_ble_eq_true rfl) ?_
          refine gp_iload_n dX9_judge_47 rfl ?_
          refine gp_ifc (t := 57) dX9_judge_48 (by decide) c1_eq (fun h7 => ?_) (fun h7 => ?_)
          · (try rw [Classical.not_not] at h7)
            refine gp_pu (st' := .int (0) :: _) dX9_judge_57 rfl ?_
            refine gp_istore (ls' := [some (.ref _), some (.int _), some (.int _), some (.int _), some (.int _), none, none, none]) dX9_judge_58 rfl (Nat.le_of_ble_eq_true rfl) ?_
            refine gp_pu (st' := .int (0) :: _) dX9_judge_60 rfl ?_
            refine gp_istore (ls' := [some (.ref _), some (.int _), some (.int _), some (.int _), some (.int _), some (.int _), none, none]) dX9_judge_61 rfl (Nat.le_of_ble_eq_true rfl) ?_
            refine gp_pu (st' := .int (0) :: _) dX9_judge_63 rfl ?_
            refine gp_istore (ls' := [some (.ref _), some (.int _), some (.int _), some (.int _), some (.int _), some (.int _), some (.int _), none]) dX9_judge_64 rfl (Nat.le_of_ble_eq_true rfl) ?_
            (exfalso; first | contradiction | (simp_all; done))

          · (try rw [Classical.not_not] at h7)
            refine gp_aload_n dX9_judge_51 rfl ?_
            refine gp_iload_n dX9_judge_52 rfl ?_
            refine gp_call (kind := 1) (args := [.ref _, .int _]) (rest := _) dX9_judge_53 (Or.inr (Or.inl ⟨rfl, rfl⟩)) mk_9_330 (by decide) me_128 rfl rfl rfl rfl rfl (mm_rc_of (by first | rfl | assumption | (simp only [*]; done))) (ok_X9_noTen _ _ _ _ (by first | decide | exact (want_w (by assumption)).inn)) rfl ?_
            refine gp_iret dX9_judge_56 rfl ?_
            first | (refine mNt ?zqa ?zqc hK1; (case zqa => (first | ((simp [w_jd, *]; done)) | (exfalso; first | contradiction | (simp_all; done)))); (case zqc => (first | (unfold isW; decide) | (exfalso; contradiction) | (exfalso; simp_all; done) | exact want_w (by assumption))))
      · have h4' := Int32.not_le.mp h4
        (try rw [Classical.not_not] at h4)
        refine gp_pu (st' := .int (-5) :: _) dX9_judge_29 rfl ?_
        refine gp_goto (t := 46) dX9_judge_31 (by decide) ?_
        refine gp_istore_n (ls' := [some (.ref _), some (.int _), some (.int _), some (.int _), none, none, none, none]) dX9_judge_46 rfl (Nat.le_of_ble_eq_true rfl) ?_
        refine gp_iload_n dX9_judge_47 rfl ?_
        refine gp_ifc (t := 57) dX9_judge_48 (by decide) c1_eq (fun h8 => ?_) (fun h8 => ?_)
        · (try rw [Classical.not_not] at h8)
          refine gp_pu (st' := .int (0) :: _) dX9_judge_57 rfl ?_
          refine gp_istore (ls' := [some (.ref _), some (.int _), some (.int _), some (.int _), some (.int _), none, none, none]) dX9_judge_58 rfl (Nat.le_of_ble_eq_true rfl) ?_
          refine gp_pu (st' := .int (0) :: _) dX9_judge_60 rfl ?_
          refine gp_istore (ls' := [some (.ref _), some (.int _), some (.int _), some (.int _), some (.int _), some (.int _), none, none]) dX9_judge_61 rfl (Nat.le_of_ble_eq_true rfl) ?_
          refine gp_pu (st' := .int (0) :: _) dX9_judge_63 rfl ?_
          refine gp_istore (ls' := [some (.ref _), some (.int _), some (.int _), some (.int _), some (.int _), some (.int _), some (.int _), none]) dX9_judge_64 rfl (Nat.le_of_ble_eq_true rfl) ?_
          (exfalso; first | contradiction | (simp_all; done))

        · (try rw [Classical.not_not] at h8)
          refine gp_aload_n dX9_judge_51 rfl ?_
          refine gp_iload_n dX9_judge_52 rfl ?_
          refine gp_call (kind := 1) (args := [.ref _, .int _]) (rest := _) dX9_judge_53 (Or.inr (Or.inl ⟨rfl, rfl⟩)) mk_9_330 (by decide) me_128 rfl rfl rfl rfl rfl (mm_rc_of (by first | rfl | assumption | (simp only [*]; done))) (ok_X9_noTen _ _ _ _ (by first | decide | exact (want_w (by assumption)).inn)) rfl ?_
          refine gp_iret dX9_judge_56 rfl ?_
          first | (refine mNt ?zqa ?zqc hK1; (case zqa => (first | ((simp [w_jd, *]; done)) | (exfalso; first | contradiction | (simp_all; done)))); (case zqc => (first | (unfold isW; decide) | (exfalso; contradiction) | (exfalso; simp_all; done) | exact want_w (by assumption))))
    · have h3' := Int32.not_le.mp h3
      (try rw [Classical.not_not] at h3)
      refine gp_pu (st' := .int (-4) :: _) dX9_judge_14 rfl ?_
      refine gp_goto (t := 46) dX9_judge_16 (by decide) ?_
      refine gp_istore_n (ls' := [some (.ref _), some (.int _), some (.int _), some (.int _), none, none, none, none]) dX9_judge_46 rfl (Nat.le_of_ble_eq_true rfl) ?_
      refine gp_iload_n dX9_judge_47 rfl ?_
      refine gp_ifc (t := 57) dX9_judge_48 (by decide) c1_eq (fun h9 => ?_) (fun h9 => ?_)
      · (try rw [Classical.not_not] at h9)
        refine gp_pu (st' := .int (0) :: _) dX9_judge_57 rfl ?_
        refine gp_istore (ls' := [some (.ref _), some (.int _), some (.int _), some (.int _), some (.int _), none, none, none]) dX9_judge_58 rfl (Nat.le_of_ble_eq_true rfl) ?_
        refine gp_pu (st' := .int (0) :: _) dX9_judge_60 rfl ?_
        refine gp_istore (ls' := [some (.ref _), some (.int _), some (.int _), some (.int _), some (.int _), some (.int _), none, none]) dX9_judge_61 rfl (Nat.le_of_ble_eq_true rfl) ?_
        refine gp_pu (st' := .int (0) :: _) dX9_judge_63 rfl ?_
        refine gp_istore (ls' := [some (.ref _), some (.int _), some (.int _), some (.int _), some (.int _), some (.int _), some (.int _), none]) dX9_judge_64 rfl (Nat.le_of_ble_eq_true rfl) ?_
        (exfalso; first | contradiction | (simp_all; done))

      · (try rw [Classical.not_not] at h9)
        refine gp_aload_n dX9_judge_51 rfl ?_
        refine gp_iload_n dX9_judge_52 rfl ?_
        refine gp_call (kind := 1) (args := [.ref _, .int _]) (rest := _) dX9_judge_53 (Or.inr (Or.inl ⟨rfl, rfl⟩)) mk_9_330 (by decide) me_128 rfl rfl rfl rfl rfl (mm_rc_of (by first | rfl | assumption | (simp only [*]; done))) (ok_X9_noTen _ _ _ _ (by first | decide | exact (want_w (by assumption)).inn)) rfl ?_
        refine gp_iret dX9_judge_56 rfl ?_
        first | (refine mNt ?zqa ?zqc hK1; (case zqa => (first | ((simp [w_jd, *]; done)) | (exfalso; first | contradiction | (simp_all; done)))); (case zqc => (first | (unfold isW; decide) | (exfalso; contradiction) | (exfalso; simp_all; done) | exact want_w (by assumption))))

theorem eq_judge (s n : Int32) : eqc 89 203 [.int s, .int n] := by
  refine eqc_q fun I L hR => ?_
  obtain ⟨N, S, hb, hS, hL, hK, hT, hW, hE⟩ := hR
  refine ⟨_, w_jd I s n, w_jd_w I s n, cl_judge 33 hb hS hL, fun C J hs => ml_judge 32 hb.1 hs hS⟩
end P77
