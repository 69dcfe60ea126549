/-! PUBLIC METHODS: row, set, show -/
section P67
variable {I C J : pI} {L : pL} {N S : Nat}

theorem RR.sh {U1 U2 : pI} {K : pL} {s : Nat} (h : RR I L) (hs : s < 8) (z1 : ∀ k, k < 108 → k ≠ 76 + 2 * s → U1 k = I k) (z2 : ∀ k, 108 ≤ k → ¬ (118 ≤ k ∧ k ≤ 121) → U2 k = I k) (z3 : ∀ k, 118 ≤ k → k ≤ 121 → ∀ t, t ≠ s → U2 k t = I k t) (hS : rSh (mg U1 U2) s) (hL : rL K) : RR (mg U1 U2) K := by
  have e : ∀ k, k ≠ 76 + 2 * s → ¬ (118 ≤ k ∧ k ≤ 121) → ∀ j, mg U1 U2 k j = I k j := fun k a b j => by
    by_cases q : k < 108
    · rw [mg_c _ _ q, z1 k q a]
    · rw [mg_r _ _ (by omega), z2 k (by omega) b]
  obtain ⟨N, S, hb, hSh, -, hK, hT, hW, hE⟩ := h
  refine ⟨N, S, ⟨hb.1.cg (fun k j z => e k (by rcases z with z | z <;> omega) (by rcases z with z | z <;> omega) j), hb.2.cg (fun k a b j => e k (by omega) (by omega) j) (fun k j z => e k (by rcases z with z | z <;> omega) (by rcases z with z | z <;> omega) j)⟩, fun q hq => ?_, hL, hK.cg (e _ (by omega) (by omega) _) (e _ (by omega) (by omega) _) (fun k a b j => e k (by omega) (by omega) j) (fun j => e _ (by omega) (by omega) j), hT.cg (e _ (by omega) (by omega) _) (e _ (by omega) (by omega) _) (fun j => e _ (by omega) (by omega) j) (fun j => e _ (by omega) (by omega) j), hW.cg (fun j => e _ (by omega) (by omega) j) (fun j => e _ (by omega) (by omega) j), hE.cg (e _ (by omega) (by omega) _) (e _ (by omega) (by omega) _) (fun j => e _ (by omega) (by omega) j) (fun j => e _ (by omega) (by omega) j)⟩
  by_cases hqs : q = s
  · subst hqs; exact hS
  · refine (hSh q hq).cg (fun j => e _ (by omega) (by omega) j) ?_ ?_ ?_ ?_ (e _ (by omega) (by omega) _)
    · rw [mg_r _ _ (by omega : 108 ≤ 118)]; exact z3 118 (by omega) (by omega) q hqs
    · rw [mg_r _ _ (by omega : 108 ≤ 119)]; exact z3 119 (by omega) (by omega) q hqs
    · rw [mg_r _ _ (by omega : 108 ≤ 120)]; exact z3 120 (by omega) (by omega) q hqs
    · rw [mg_r _ _ (by omega : 108 ≤ 121)]; exact z3 121 (by omega) (by omega) q hqs
def y_fill (K : pL) (b n : Nat) : pL := fun a j => if a = 122 ∧ b ≤ j ∧ j < b + n then 0 else K a j
theorem y_fill_0 (K : pL) (b : Nat) : y_fill K b 0 = K := by
  funext a j
  exact if_neg (by omega)
theorem y_fill_s (K : pL) (b n : Nat) : mm_u (y_fill K b n) 122 (b + n) 0 = y_fill K b (n + 1) := by
  funext a j
  unfold mm_u y_fill
  by_cases h1 : a = 122
  · by_cases h2 : j = b + n
    · rw [if_pos h1, if_pos h2, if_pos (by omega)]
    · rw [if_pos h1, if_neg h2]
      by_cases h3 : b ≤ j ∧ j < b + n
      · rw [if_pos ⟨h1, h3⟩, if_pos (by omega)]
      · rw [if_neg (fun z => h3 z.2), if_neg (by omega)]
  · rw [if_neg h1, if_neg (fun z => h1 z.1), if_neg (fun z => h1 z.1)]
def w_ro (s o n : Int32) : Int32 := if ¬ (0 ≤ s ∧ s < 8) then -1 else if n < 0 then -4 else if o < 0 ∨ 3 < o then -6 else if 160 < n then -7 else 0
theorem w_ro_w (s o n : Int32) : w_ro s o n = 0 ∨ isW (w_ro s o n) := by unfold w_ro; (repeat' split) <;> first | exact Or.inl rfl | (right; unfold isW; decide)
theorem w_ro_0 {s o n : Int32} (h : w_ro s o n = 0) : (0 ≤ s ∧ s < 8) ∧ wi n 0 160 ∧ wi o 0 3 := by
  unfold w_ro at h
  by_cases a : 0 ≤ s ∧ s < 8
  · rw [if_neg (fun z => z a)] at h
    by_cases b : n < 0
    · rw [if_pos b] at h; exact absurd h (by decide)
    · rw [if_neg b] at h
      by_cases c : o < 0 ∨ 3 < o
      · rw [if_pos c] at h; exact absurd h (by decide)
      · rw [if_neg c] at h
        by_cases d : 160 < n
        · rw [if_pos d] at h; exact absurd h (by decide)
        · simp only [ti_lt, ti_0, show (3 : Int32).toInt = 3 from by decide, show (160 : Int32).toInt = 160 from by decide] at b c d
          refine ⟨a, ?_, ?_⟩ <;> unfold wi <;> omega
  · rw [if_pos a] at h; exact absurd h (by decide)
theorem i_4 (w : Int32) : w < 4 ↔ ¬ 3 < w := by
  simp only [ti_lt, show (3 : Int32).toInt = 3 from by decide, show (4 : Int32).toInt = 4 from by decide]
  omega
def u_row (I : pI) (s : Nat) (o n : Int32) : pI := sr I (76 + 2 * s) (upd (upd (I (76 + 2 * s)) 0 (100 + o)) 1 n)
def v_row (I : pI) (s : Nat) (o n : Int32) : pI := mm_u (mm_u (mm_u I 118 s 1) 119 s o) 120 s n

set_option maxHeartbeats 400000 in
theorem cl_row (d : Nat) (hb : bR I N S) {s o n : Int32} : cP (d + 4) 60 [.ref 0, .int s, .int o, .int n] (mm_sh, mm_R, I, L) (pX (some (.int (vq (w_ro s o n) 1))) (lL (w_ro s o n) (x_fill L (76 + 2 * s.toNatClampNeg + 1) 160 0) L) (sc (uC (w_ro s o n) (u_row I s.toNatClampNeg o n) I))) := by
  have hs := sc.rf I
  have e11 : I 1 1 = nI N := hb.c11 hs
  have e13 : I 1 3 = nI S := hb.c13 hs
  refine cP.of_gP (d := d + 3) me_60 ⟨Nat.le_of_ble_eq_true rfl, rfl⟩ ?_
  show gP mm_cs0 _ _ _ _ _ _ [some (.ref _), some (.int _), some (.int _), some (.int _)] [] _ _
  refine gp_iload_n dX8_row_0 rfl ?_
  refine gp_call (kind := 0) (args := [.int _]) (rest := _) dX8_row_1 (Or.inl ⟨rfl, rfl⟩) mk_8_75 (by decide) me_101 rfl rfl rfl rfl rfl rfl (ok_X8_isShelf _ _ _ _) rfl ?_
  refine gp_ifc (t := 13) dX8_row_4 (by decide) c1_ne (fun h1 => ?_) (fun h1 => ?_)
  · (try simp only [bi_0, bi_1, Classical.not_not, i_4] at h1)
    refine gp_iload_n dX8_row_13 rfl ?_
    refine gp_ifc (t := 24) dX8_row_14 (by decide) c1_ge (fun h2 => ?_) (fun h2 => ?_)
    · have h2' := Int32.not_lt.mpr h2
      (try simp only [bi_0, bi_1, Classical.not_not, i_4] at h2)
      refine gp_iload_n dX8_row_24 rfl ?_
      refine gp_ifc (t := 33) dX8_row_25 (by decide) c1_lt (fun h3 => ?_) (fun h3 => ?_)
      · have h3' := Int32.not_le.mpr h3
        (try simp only [bi_0, bi_1, Classical.not_not, i_4] at h3)
        refine gp_aload_n dX8_row_33 rfl ?_
        refine gp_pu (st' := .int (-6) :: _) dX8_row_34 rfl ?_
        refine gp_call (kind := 1) (args := [.ref _, .int _]) (rest := _) dX8_row_36 (Or.inr (Or.inl ⟨rfl, rfl⟩)) mk_8_79 (by decide) me_100 rfl rfl rfl rfl rfl (mm_rc_of (by first | rfl | assumption | (simp only [*]; done))) (ok_X8_refuse _ _ _ _) rfl ?_
        refine gp_iret dX8_row_39 rfl ?_
        first | (refine uNo ?zqa ?zqc; (case zqa => (first | ((simp [w_ro, *]; done)) | (exfalso; contradiction))); (case zqc => (unfold isW; decide)))
      · have h3' := Int32.not_lt.mp h3
        (try simp only [bi_0, bi_1, Classical.not_not, i_4] at h3)
        refine gp_iload_n dX8_row_28 rfl ?_
        refine gp_pu (st' := .int (4) :: _) dX8_row_29 rfl ?_
        refine gp_icc (t := 40) dX8_row_30 (by decide) c2_lt (fun h4 => ?_) (fun h4 => ?_)
        · have h4' := Int32.not_le.mpr h4
          (try simp only [bi_0, bi_1, Classical.not_not, i_4] at h4)
          refine gp_iload_n dX8_row_40 rfl ?_
          refine gp_pu (st' := .int (160) :: _) dX8_row_41 rfl ?_
          refine gp_icc (t := 54) dX8_row_44 (by decide) c2_le (fun h5 => ?_) (fun h5 => ?_)
          · have h5' := Int32.not_lt.mpr h5
            (try simp only [bi_0, bi_1, Classical.not_not, i_4] at h5)
            obtain ⟨zqs1, zqs2, zqs3, zqs4, zqs5⟩ := sh_s (s := s) (by assumption)
            refine gp_aload_n dX8_row_54 rfl ?_
            refine gp_gr dX8_row_55 mf_8_24 rfl (by first | rfl | assumption | (simp only [*]; done)) (by first | rfl | assumption | (simp only [*]; done)) ?_
            refine gp_iload_n dX8_row_58 rfl ?_
            refine gp_aal dX8_row_59 (by first | rfl | assumption | (simp only [*]; done)) (by decide) (by first | rfl | assumption | (simp only [*]; done)) (by first | rfl | assumption | (simp only [*]; done)) ?_
            refine gp_iload_n dX8_row_60 rfl ?_
            refine gp_iload_n dX8_row_61 rfl ?_
            refine gp_call (kind := 1) (args := [.ref _, .int _, .int _]) (rest := _) dX8_row_62 (Or.inr (Or.inl ⟨rfl, rfl⟩)) mk_8_83 (by decide) me_53 rfl rfl rfl rfl rfl (mm_rc_of (by first | rfl | assumption | (simp only [*]; done))) (ok_X7_holdRow _ _ _ _ zqs3 _ _) rfl ?_
            refine gp_pu (st' := .int (1) :: _) dX8_row_65 rfl ?_
            refine gp_iret dX8_row_66 rfl ?_
            first | (refine uOk ?zqa ?zqb (sc.rf _); (case zqa => (first | ((simp [w_ro, *]; done)) | (exfalso; contradiction))); (case zqb => (exact rfl)))
          · have h5' := Int32.not_le.mp h5
            (try simp only [bi_0, bi_1, Classical.not_not, i_4] at h5)
            refine gp_aload_n dX8_row_47 rfl ?_
            refine gp_pu (st' := .int (-7) :: _) dX8_row_48 rfl ?_
            refine gp_call (kind := 1) (args := [.ref _, .int _]) (rest := _) dX8_row_50 (Or.inr (Or.inl ⟨rfl, rfl⟩)) mk_8_79 (by decide) me_100 rfl rfl rfl rfl rfl (mm_rc_of (by first | rfl | assumption | (simp only [*]; done))) (ok_X8_refuse _ _ _ _) rfl ?_
            refine gp_iret dX8_row_53 rfl ?_
            first | (refine uNo ?zqa ?zqc; (case zqa => (first | ((simp [w_ro, *]; done)) | (exfalso; contradiction))); (case zqc => (unfold isW; decide)))
        · have h4' := Int32.not_lt.mp h4
          (try simp only [bi_0, bi_1, Classical.not_not, i_4] at h4)
          refine gp_aload_n dX8_row_33 rfl ?_
          refine gp_pu (st' := .int (-6) :: _) dX8_row_34 rfl ?_
          refine gp_call (kind := 1) (args := [.ref _, .int _]) (rest := _) dX8_row_36 (Or.inr (Or.inl ⟨rfl, rfl⟩)) mk_8_79 (by decide) me_100 rfl rfl rfl rfl rfl (mm_rc_of (by first | rfl | assumption | (simp only [*]; done))) (ok_X8_refuse _ _ _ _) rfl ?_
          refine gp_iret dX8_row_39 rfl ?_
          first | (refine uNo ?zqa ?zqc; (case zqa => (first | ((simp [w_ro, *]; done)) | (exfalso; contradiction))); (case zqc => (unfold isW; decide)))
    · have h2' := Int32.not_le.mp h2
      (try simp only [bi_0, bi_1, Classical.not_not, i_4] at h2)
      refine gp_aload_n dX8_row_17 rfl ?_
      refine gp_pu (st' := .int (-4) :: _) dX8_row_18 rfl ?_
      refine gp_call (kind := 1) (args := [.ref _, .int _]) (rest := _) dX8_row_20 (Or.inr (Or.inl ⟨rfl, rfl⟩)) mk_8_79 (by decide) me_100 rfl rfl rfl rfl rfl (mm_rc_of (by first | rfl | assumption | (simp only [*]; done))) (ok_X8_refuse _ _ _ _) rfl ?_
      refine gp_iret dX8_row_23 rfl ?_
      first | (refine uNo ?zqa ?zqc; (case zqa => (first | ((simp [w_ro, *]; done)) | (exfalso; contradiction))); (case zqc => (unfold isW; decide)))
  · (try simp only [bi_0, bi_1, Classical.not_not, i_4] at h1)
    refine gp_aload_n dX8_row_7 rfl ?_
    refine gp_pu (st' := .int (-1) :: _) dX8_row_8 rfl ?_
    refine gp_call (kind := 1) (args := [.ref _, .int _]) (rest := _) dX8_row_9 (Or.inr (Or.inl ⟨rfl, rfl⟩)) mk_8_79 (by decide) me_100 rfl rfl rfl rfl rfl (mm_rc_of (by first | rfl | assumption | (simp only [*]; done))) (ok_X8_refuse _ _ _ _) rfl ?_
    refine gp_iret dX8_row_12 rfl ?_
    first | (refine uNo ?zqa ?zqc; (case zqa => (first | ((simp [w_ro, *]; done)) | (exfalso; contradiction))); (case zqc => (unfold isW; decide)))

set_option maxHeartbeats 400000 in
theorem lp_row (d : Nat) {s o n0 : Int32} (hs8 : 0 ≤ s ∧ s < 8) (J : pI) (K : pL) : ∀ n i : Nat, i + n = 160 → gP mm_cs0 d 9 false (some .int) cX9_row 79 [some (.ref 108), some (.int s), some (.int o), some (.int n0), some (.int (nI i))] [] (mm_sh, mm_R, J, y_fill K (160 * s.toNatClampNeg) i) (pX (some (.int 1)) (y_fill K (160 * s.toNatClampNeg) 160) (fun J' => J' = J)) := by
  intro n
  induction n with
  | zero =>
    intro i hi
    obtain rfl : i = 160 := by omega
    have hc : (160 : Int32) ≤ nI 160 := Int32.le_refl _
    refine gp_iload dX9_row_79 rfl ?_
    refine gp_pu (st' := .int (160) :: _) dX9_row_81 rfl ?_
    refine gp_icc (t := 107) dX9_row_84 (by decide) c2_ge (fun h1 => ?_) (fun h1 => ?_)
    · have h1' := Int32.not_lt.mpr h1
      refine gp_pu (st' := .int (1) :: _) dX9_row_107 rfl ?_
      refine gp_iret dX9_row_108 rfl ?_
      exact pX.mk rfl rfl
    · exact absurd hc h1
  | succ n ih =>
    intro i hi
    have hc : ¬ (160 : Int32) ≤ nI i := nI_ge (b := 160) (by omega) (by omega)
    obtain ⟨zqp1, zqp2⟩ := pl_160 (i := nI i) hs8 (nI_pos (by omega)) (by rw [nI_toInt (by omega)]; omega)
    refine gp_iload dX9_row_79 rfl ?_
    refine gp_pu (st' := .int (160) :: _) dX9_row_81 rfl ?_
    refine gp_icc (t := 107) dX9_row_84 (by decide) c2_ge (fun h1 => ?_) (fun h1 => ?_)
    · exact absurd h1 hc
    · have h1' := Int32.not_le.mp h1
      refine gp_aload_n dX9_row_87 rfl ?_
      refine gp_gr dX9_row_88 mf_9_68 rfl (by first | rfl | assumption | (simp only [*]; done)) (by first | rfl | assumption | (simp only [*]; done)) ?_
      refine gp_pu (st' := .int (160) :: _) dX9_row_91 rfl ?_
      refine gp_iload_n dX9_row_94 rfl ?_
      refine gp_pu (st' := .int _ :: _) dX9_row_95 rfl ?_
      refine gp_iload dX9_row_96 rfl ?_
      refine gp_pu (st' := .int _ :: _) dX9_row_98 rfl ?_
      refine gp_pu (st' := .long (0) :: _) dX9_row_99 rfl ?_
      refine gp_las dX9_row_100 (by first | rfl | assumption | (simp only [*]; done)) zqp1 ?_
      refine gp_iinc (v := (1)) (ls' := [some (.ref _), some (.int _), some (.int _), some (.int _), some (.int _)]) dX9_row_101 rfl (by decide) rfl ?_
      refine gp_goto (t := 79) dX9_row_104 (by decide) ?_
      (rw [zqp2, nI_clamp (by omega), y_fill_s, nI_1]; exact ih (i + 1) (by omega))

set_option maxHeartbeats 400000 in
theorem ml_row (d : Nat) (v : vN I N S) (hs : mR I C J) {s o n : Int32} : cP (d + 2) 133 [.ref 108, .int s, .int o, .int n] (mm_sh, mm_R, J, L) (pX (some (.int (vq (w_ro s o n) 1))) (lL (w_ro s o n) (y_fill L (160 * s.toNatClampNeg) 160) L) (mR (uM (w_ro s o n) (v_row I s.toNatClampNeg o n) I) C)) := by
  have m0 : J 108 0 = nI N := (hs.r (by decide)).trans v.2.2.1
  have m1 : J 108 1 = nI S := (hs.r (by decide)).trans v.2.2.2.1
  refine cP.of_gP (d := d + 1) me_133 ⟨Nat.le_of_ble_eq_true rfl, rfl⟩ ?_
  show gP mm_cs0 _ _ _ _ _ _ [some (.ref _), some (.int _), some (.int _), some (.int _), none] [] _ _
  refine gp_aload_n dX9_row_0 rfl ?_
  refine gp_iload_n dX9_row_1 rfl ?_
  refine gp_call (kind := 1) (args := [.ref _, .int _]) (rest := _) dX9_row_2 (Or.inr (Or.inl ⟨rfl, rfl⟩)) mk_9_123 (by decide) me_129 rfl rfl rfl rfl rfl (mm_rc_of (by first | rfl | assumption | (simp only [*]; done))) (ok_X9_isShelf _ _ _ _) rfl ?_
  refine gp_ifc (t := 14) dX9_row_5 (by decide) c1_ne (fun h1 => ?_) (fun h1 => ?_)
  · (try simp only [bi_0, bi_1, Classical.not_not, m0, m1] at h1)
    refine gp_iload_n dX9_row_14 rfl ?_
    refine gp_ifc (t := 25) dX9_row_15 (by decide) c1_ge (fun h2 => ?_) (fun h2 => ?_)
    · have h2' := Int32.not_lt.mpr h2
      (try simp only [bi_0, bi_1, Classical.not_not, m0, m1] at h2)
      refine gp_iload_n dX9_row_25 rfl ?_
      refine gp_ifc (t := 34) dX9_row_26 (by decide) c1_lt (fun h3 => ?_) (fun h3 => ?_)
      · have h3' := Int32.not_le.mpr h3
        (try simp only [bi_0, bi_1, Classical.not_not, m0, m1] at h3)
        refine gp_aload_n dX9_row_34 rfl ?_
        refine gp_pu (st' := .int (-6) :: _) dX9_row_35 rfl ?_
        refine gp_call (kind := 1) (args := [.ref _, .int _]) (rest := _) dX9_row_37 (Or.inr (Or.inl ⟨rfl, rfl⟩)) mk_9_127 (by decide) me_127 rfl rfl rfl rfl rfl (mm_rc_of (by first | rfl | assumption | (simp only [*]; done))) (ok_X9_no _ _ _ _ (by decide)) rfl ?_
        refine gp_iret dX9_row_40 rfl ?_
        first | (refine uMo ?zqa ?zqc hs; (case zqa => (first | ((simp [w_ro, *]; done)) | (exfalso; contradiction))); (case zqc => (unfold isW; decide)))
      · have h3' := Int32.not_lt.mp h3
        (try simp only [bi_0, bi_1, Classical.not_not, m0, m1] at h3)
        refine gp_iload_n dX9_row_29 rfl ?_
        refine gp_pu (st' := .int (3) :: _) dX9_row_30 rfl ?_
        refine gp_icc (t := 41) dX9_row_31 (by decide) c2_le (fun h4 => ?_) (fun h4 => ?_)
        · have h4' := Int32.not_lt.mpr h4
          (try simp only [bi_0, bi_1, Classical.not_not, m0, m1] at h4)
          refine gp_iload_n dX9_row_41 rfl ?_
          refine gp_pu (st' := .int (160) :: _) dX9_row_42 rfl ?_
          refine gp_icc (t := 55) dX9_row_45 (by decide) c2_le (fun h5 => ?_) (fun h5 => ?_)
          · have h5' := Int32.not_lt.mpr h5
            (try simp only [bi_0, bi_1, Classical.not_not, m0, m1] at h5)
            have zqs1 := (mm_in_8 (x := s)).mpr (by assumption)
            have zqw : w_ro s o n = 0 := by simp [w_ro, *]
            refine gp_aload_n dX9_row_55 rfl ?_
            refine gp_gr dX9_row_56 mf_9_56 rfl (by first | rfl | assumption | (simp only [*]; done)) (by first | rfl | assumption | (simp only [*]; done)) ?_
            refine gp_iload_n dX9_row_59 rfl ?_
            refine gp_pu (st' := .int (1) :: _) dX9_row_60 rfl ?_
            refine gp_ias dX9_row_61 (by first | rfl | assumption | (simp only [*]; done)) (by first | rfl | assumption | (simp only [*]; done)) ?_
            refine gp_aload_n dX9_row_62 rfl ?_
            refine gp_gr dX9_row_63 mf_9_59 rfl (by first | rfl | assumption | (simp only [*]; done)) (by first | rfl | assumption | (simp only [*]; done)) ?_
            refine gp_iload_n dX9_row_66 rfl ?_
            refine gp_iload_n dX9_row_67 rfl ?_
            refine gp_ias dX9_row_68 (by first | rfl | assumption | (simp only [*]; done)) (by first | rfl | assumption | (simp only [*]; done)) ?_
            refine gp_aload_n dX9_row_69 rfl ?_
            refine gp_gr dX9_row_70 mf_9_62 rfl (by first | rfl | assumption | (simp only [*]; done)) (by first | rfl | assumption | (simp only [*]; done)) ?_
            refine gp_iload_n dX9_row_73 rfl ?_
            refine gp_iload_n dX9_row_74 rfl ?_
            refine gp_ias dX9_row_75 (by first | rfl | assumption | (simp only [*]; done)) (by first | rfl | assumption | (simp only [*]; done)) ?_
            refine gp_pu (st' := .int (0) :: _) dX9_row_76 rfl ?_
            refine gp_istore (ls' := [some (.ref _), some (.int _), some (.int _), some (.int _), some (.int _)]) dX9_row_77 rfl (Nat.le_of_ble_eq_true rfl) ?_
            (refine gP.mono (Q := pX (some (.int 1)) (y_fill L (160 * s.toNatClampNeg) 160) (fun J' => J' = mm_u (mm_u (mm_u J 118 s.toNatClampNeg 1) 119 s.toNatClampNeg o) 120 s.toNatClampNeg n)) ?_ ?_
             · have := lp_row (d + 1) (o := o) (n0 := n) (by assumption) (mm_u (mm_u (mm_u J 118 s.toNatClampNeg 1) 119 s.toNatClampNeg o) 120 s.toNatClampNeg n) L 160 0 (by omega)
               rw [y_fill_0] at this
               exact this
             · rintro r M ⟨rfl, J', rfl, rfl⟩
               exact uMk zqw rfl (((hs.uu (by decide)).uu (by decide)).uu (by decide)))
          · have h5' := Int32.not_le.mp h5
            (try simp only [bi_0, bi_1, Classical.not_not, m0, m1] at h5)
            refine gp_aload_n dX9_row_48 rfl ?_
            refine gp_pu (st' := .int (-7) :: _) dX9_row_49 rfl ?_
            refine gp_call (kind := 1) (args := [.ref _, .int _]) (rest := _) dX9_row_51 (Or.inr (Or.inl ⟨rfl, rfl⟩)) mk_9_127 (by decide) me_127 rfl rfl rfl rfl rfl (mm_rc_of (by first | rfl | assumption | (simp only [*]; done))) (ok_X9_no _ _ _ _ (by decide)) rfl ?_
            refine gp_iret dX9_row_54 rfl ?_
            first | (refine uMo ?zqa ?zqc hs; (case zqa => (first | ((simp [w_ro, *]; done)) | (exfalso; contradiction))); (case zqc => (unfold isW; decide)))
        · have h4' := Int32.not_le.mp h4
          (try simp only [bi_0, bi_1, Classical.not_not, m0, m1] at h4)
          refine gp_aload_n dX9_row_34 rfl ?_
          refine gp_pu (st' := .int (-6) :: _) dX9_row_35 rfl ?_
          refine gp_call (kind := 1) (args := [.ref _, .int _]) (rest := _) dX9_row_37 (Or.inr (Or.inl ⟨rfl, rfl⟩)) mk_9_127 (by decide) me_127 rfl rfl rfl rfl rfl (mm_rc_of (by first | rfl | assumption | (simp only [*]; done))) (ok_X9_no _ _ _ _ (by decide)) rfl ?_
          refine gp_iret dX9_row_40 rfl ?_
          first | (refine uMo ?zqa ?zqc hs; (case zqa => (first | ((simp [w_ro, *]; done)) | (exfalso; contradiction))); (case zqc => (unfold isW; decide)))
    · have h2' := Int32.not_le.mp h2
      (try simp only [bi_0, bi_1, Classical.not_not, m0, m1] at h2)
      refine gp_aload_n dX9_row_18 rfl ?_
      refine gp_pu (st' := .int (-4) :: _) dX9_row_19 rfl ?_
      refine gp_call (kind := 1) (args := [.ref _, .int _]) (rest := _) dX9_row_21 (Or.inr (Or.inl ⟨rfl, rfl⟩)) mk_9_127 (by decide) me_127 rfl rfl rfl rfl rfl (mm_rc_of (by first | rfl | assumption | (simp only [*]; done))) (ok_X9_no _ _ _ _ (by decide)) rfl ?_
      refine gp_iret dX9_row_24 rfl ?_
      first | (refine uMo ?zqa ?zqc hs; (case zqa => (first | ((simp [w_ro, *]; done)) | (exfalso; contradiction))); (case zqc => (unfold isW; decide)))
  · (try simp only [bi_0, bi_1, Classical.not_not, m0, m1] at h1)
    refine gp_aload_n dX9_row_8 rfl ?_
    refine gp_pu (st' := .int (-1) :: _) dX9_row_9 rfl ?_
    refine gp_call (kind := 1) (args := [.ref _, .int _]) (rest := _) dX9_row_10 (Or.inr (Or.inl ⟨rfl, rfl⟩)) mk_9_127 (by decide) me_127 rfl rfl rfl rfl rfl (mm_rc_of (by first | rfl | assumption | (simp only [*]; done))) (ok_X9_no _ _ _ _ (by decide)) rfl ?_
    refine gp_iret dX9_row_13 rfl ?_
    first | (refine uMo ?zqa ?zqc hs; (case zqa => (first | ((simp [w_ro, *]; done)) | (exfalso; contradiction))); (case zqc => (unfold isW; decide)))

theorem x_fill_i (L : pL) (k n a b : Nat) (v : Int64) : x_fill L k n v a b = if a = k ∧ b < n then v else L a b := rfl
theorem rL_row {s : Nat} (h : rL L) (hs : s < 8) : rL (y_fill (x_fill L (76 + 2 * s + 1) 160 0) (160 * s) 160) := by
  intro t ht j hj
  unfold y_fill
  rw [x_fill_i, x_fill_i, if_neg (by omega : ¬ (77 + 2 * t = 122 ∧ _))]
  by_cases z : t = s
  · rw [if_pos (by omega), if_pos (by omega)]
  · rw [if_neg (by omega), if_neg (by omega), if_neg (by omega)]
    exact h t ht j hj

theorem eq_row (s o n : Int32) : eqc 60 133 [.int s, .int o, .int n] := by
  refine eqc_u fun I L hR => ?_
  have hR0 := hR
  obtain ⟨N, S, hb, hS, hL, hK, hT, hW, hE⟩ := hR
  refine ⟨_, w_ro s o n, u_row I s.toNatClampNeg o n, v_row I s.toNatClampNeg o n, fun L => x_fill L (76 + 2 * s.toNatClampNeg + 1) 160 0, fun L => y_fill L (160 * s.toNatClampNeg) 160, w_ro_w s o n, fun hw => ?_, cl_row 36 hb, fun C J K hs => ml_row 38 hb.1 hs, fun hw => ?_⟩
  · exact fun k hk => sr_other _ _ (by have := (sh_s (w_ro_0 hw).1).2.2.2.2; omega)
  · obtain ⟨a, b, c⟩ := w_ro_0 hw
    have h8 := (sh_s a).2.2.2.2
    refine hR0.sh h8 (fun k hk hn => sr_other _ _ hn) (fun k hk hn => ?_) (fun k h1 h2 t ht => ?_) ?_ (rL_row hL h8)
    · unfold v_row
      rw [mm_u_k _ _ _ (by omega), mm_u_k _ _ _ (by omega), mm_u_k _ _ _ (by omega)]
    · unfold v_row
      rw [mm_u_i, if_neg (by omega), mm_u_i, if_neg (by omega), mm_u_i, if_neg (by omega)]
    · refine Or.inr (Or.inl ?_)
      have e : mg (u_row I s.toNatClampNeg o n) (v_row I s.toNatClampNeg o n) (76 + 2 * s.toNatClampNeg) = upd (upd (I (76 + 2 * s.toNatClampNeg)) 0 (100 + o)) 1 n := by
        rw [mg_c _ _ (by omega)]; exact sr_same _ _ _
      have e2 : ∀ k, 108 ≤ k → mg (u_row I s.toNatClampNeg o n) (v_row I s.toNatClampNeg o n) k = v_row I s.toNatClampNeg o n k := fun k hk => mg_r _ _ hk
      rw [e, e2 118 (by omega), e2 119 (by omega), e2 120 (by omega)]
      refine ⟨?_, ?_, ?_, ?_, ?_⟩
      · simp [v_row, mm_u]
      · have : v_row I s.toNatClampNeg o n 119 s.toNatClampNeg = o := by simp [v_row, mm_u]
        rw [this]; exact c
      · simp [v_row, mm_u, upd]
      · simp [v_row, mm_u, upd]
      · have : v_row I s.toNatClampNeg o n 120 s.toNatClampNeg = n := by simp [v_row, mm_u]
        rw [this]; exact b

def w_sh (N : Nat) (s c : Int32) : Int32 := if ¬ (0 ≤ s ∧ s < 8) then -1 else if ¬ c = -1 ∧ ¬ (0 ≤ c ∧ c < nI N) then -1 else 0
theorem w_sh_w (N : Nat) (s c : Int32) : w_sh N s c = 0 ∨ isW (w_sh N s c) := by unfold w_sh; (repeat' split) <;> first | exact Or.inl rfl | (right; unfold isW; decide)
theorem w_sh_0 {s c : Int32} (h : w_sh N s c = 0) : (0 ≤ s ∧ s < 8) ∧ (c = -1 ∨ (0 ≤ c ∧ c < nI N)) := by
  unfold w_sh at h
  by_cases a : 0 ≤ s ∧ s < 8
  · refine ⟨a, ?_⟩
    rw [if_neg (fun z => z a)] at h
    by_cases b : c = -1
    · exact Or.inl b
    · by_cases d : 0 ≤ c ∧ c < nI N
      · exact Or.inr d
      · rw [if_pos ⟨b, d⟩] at h; exact absurd h (by decide)
  · rw [if_pos a] at h; exact absurd h (by decide)
def u_sh (I : pI) (s : Nat) (c : Int32) : pI := sr I (76 + 2 * s) (upd (upd (I (76 + 2 * s)) 0 c) 1 0)
def v_sh (I : pI) (s : Nat) (c : Int32) : pI := mm_u (mm_u I 118 s (if c = -1 then 0 else 2)) 121 s c

set_option maxHeartbeats 400000 in
theorem cl_show (d : Nat) (hb : bR I N S) {s c : Int32} : cP (d + 3) 64 [.ref 0, .int s, .int c] (mm_sh, mm_R, I, L) (pX (some (.int (vq (w_sh N s c) (if c = -1 then 0 else 1)))) (lL (w_sh N s c) L L) (sc (uC (w_sh N s c) (u_sh I s.toNatClampNeg c) I))) := by
  have hs := sc.rf I
  have e11 : I 1 1 = nI N := hb.c11 hs
  have e13 : I 1 3 = nI S := hb.c13 hs
  refine cP.of_gP (d := d + 2) me_64 ⟨Nat.le_of_ble_eq_true rfl, rfl⟩ ?_
  show gP mm_cs0 _ _ _ _ _ _ [some (.ref _), some (.int _), some (.int _)] [] _ _
  refine gp_iload_n dX8_show_0 rfl ?_
  refine gp_call (kind := 0) (args := [.int _]) (rest := _) dX8_show_1 (Or.inl ⟨rfl, rfl⟩) mk_8_75 (by decide) me_101 rfl rfl rfl rfl rfl rfl (ok_X8_isShelf _ _ _ _) rfl ?_
  refine gp_ifc (t := 23) dX8_show_4 (by decide) c1_eq (fun h1 => ?_) (fun h1 => ?_)
  · (try simp only [bi_0, bi_1, Classical.not_not, e11, e13] at h1)
    refine gp_aload_n dX8_show_23 rfl ?_
    refine gp_pu (st' := .int (-1) :: _) dX8_show_24 rfl ?_
    refine gp_call (kind := 1) (args := [.ref _, .int _]) (rest := _) dX8_show_25 (Or.inr (Or.inl ⟨rfl, rfl⟩)) mk_8_79 (by decide) me_100 rfl rfl rfl rfl rfl (mm_rc_of (by first | rfl | assumption | (simp only [*]; done))) (ok_X8_refuse _ _ _ _) rfl ?_
    refine gp_iret dX8_show_28 rfl ?_
    first | (refine uNo ?zqa ?zqc; (case zqa => (first | ((simp [w_sh, *]; done)) | (exfalso; contradiction))); (case zqc => (unfold isW; decide)))
  · (try simp only [bi_0, bi_1, Classical.not_not, e11, e13] at h1)
    refine gp_iload_n dX8_show_7 rfl ?_
    refine gp_pu (st' := .int (-1) :: _) dX8_show_8 rfl ?_
    refine gp_icc (t := 29) dX8_show_9 (by decide) c2_eq (fun h2 => ?_) (fun h2 => ?_)
    · (try simp only [bi_0, bi_1, Classical.not_not, e11, e13] at h2)
      obtain ⟨zqs1, zqs2, zqs3, zqs4, zqs5⟩ := sh_s (s := s) (by assumption)
      refine gp_aload_n dX8_show_29 rfl ?_
      refine gp_gr dX8_show_30 mf_8_24 rfl (by first | rfl | assumption | (simp only [*]; done)) (by first | rfl | assumption | (simp only [*]; done)) ?_
      refine gp_iload_n dX8_show_33 rfl ?_
      refine gp_aal dX8_show_34 (by first | rfl | assumption | (simp only [*]; done)) (by decide) (by first | rfl | assumption | (simp only [*]; done)) (by first | rfl | assumption | (simp only [*]; done)) ?_
      refine gp_iload_n dX8_show_35 rfl ?_
      refine gp_call (kind := 1) (args := [.ref _, .int _]) (rest := _) dX8_show_36 (Or.inr (Or.inl ⟨rfl, rfl⟩)) mk_8_128 (by decide) me_54 rfl rfl rfl rfl rfl (mm_rc_of (by first | rfl | assumption | (simp only [*]; done))) (ok_X7_holdChild _ _ _ _ zqs3 _) rfl ?_
      refine gp_iload_n dX8_show_39 rfl ?_
      refine gp_pu (st' := .int (-1) :: _) dX8_show_40 rfl ?_
      refine gp_icc (t := 48) dX8_show_41 (by decide) c2_ne (fun h3 => ?_) (fun h3 => ?_)
      · (try simp only [bi_0, bi_1, Classical.not_not, e11, e13] at h3)
        refine gp_pu (st' := .int (1) :: _) dX8_show_48 rfl ?_
        refine gp_iret dX8_show_49 rfl ?_
        first | (refine uOk ?zqa ?zqb (sc.rf _); (case zqa => (first | ((simp [w_sh, *]; done)) | (exfalso; contradiction))); (case zqb => (first | ((simp [*]; done)) | (exfalso; contradiction))))
      · (try simp only [bi_0, bi_1, Classical.not_not, e11, e13] at h3)
        refine gp_pu (st' := .int (0) :: _) dX8_show_44 rfl ?_
        refine gp_goto (t := 49) dX8_show_45 (by decide) ?_
        refine gp_iret dX8_show_49 rfl ?_
        first | (refine uOk ?zqa ?zqb (sc.rf _); (case zqa => (first | ((simp [w_sh, *]; done)) | (exfalso; contradiction))); (case zqb => (first | ((simp [*]; done)) | (exfalso; contradiction))))
    · (try simp only [bi_0, bi_1, Classical.not_not, e11, e13] at h2)
      refine gp_aload_n dX8_show_12 rfl ?_
      refine gp_gr dX8_show_13 mf_8_10 rfl (by first | rfl | assumption | (simp only [*]; done)) (by first | rfl | assumption | (simp only [*]; done)) ?_
      refine gp_iload_n dX8_show_16 rfl ?_
      refine gp_call (kind := 1) (args := [.ref _, .int _]) (rest := _) dX8_show_17 (Or.inr (Or.inl ⟨rfl, rfl⟩)) mk_8_126 (by decide) me_3 rfl rfl rfl rfl rfl (mm_rc_of (by first | rfl | assumption | (simp only [*]; done))) (ok_X1_hasChild _ _ _ _ rfl _) rfl ?_
      refine gp_ifc (t := 29) dX8_show_20 (by decide) c1_ne (fun h4 => ?_) (fun h4 => ?_)
      · (try simp only [bi_0, bi_1, Classical.not_not, e11, e13] at h4)
        obtain ⟨zqs1, zqs2, zqs3, zqs4, zqs5⟩ := sh_s (s := s) (by assumption)
        refine gp_aload_n dX8_show_29 rfl ?_
        refine gp_gr dX8_show_30 mf_8_24 rfl (by first | rfl | assumption | (simp only [*]; done)) (by first | rfl | assumption | (simp only [*]; done)) ?_
        refine gp_iload_n dX8_show_33 rfl ?_
        refine gp_aal dX8_show_34 (by first | rfl | assumption | (simp only [*]; done)) (by decide) (by first | rfl | assumption | (simp only [*]; done)) (by first | rfl | assumption | (simp only [*]; done)) ?_
        refine gp_iload_n dX8_show_35 rfl ?_
        refine gp_call (kind := 1) (args := [.ref _, .int _]) (rest := _) dX8_show_36 (Or.inr (Or.inl ⟨rfl, rfl⟩)) mk_8_128 (by decide) me_54 rfl rfl rfl rfl rfl (mm_rc_of (by first | rfl | assumption | (simp only [*]; done))) (ok_X7_holdChild _ _ _ _ zqs3 _) rfl ?_
        refine gp_iload_n dX8_show_39 rfl ?_
        refine gp_pu (st' := .int (-1) :: _) dX8_show_40 rfl ?_
        refine gp_icc (t := 48) dX8_show_41 (by decide) c2_ne (fun h5 => ?_) (fun h5 => ?_)
        · (try simp only [bi_0, bi_1, Classical.not_not, e11, e13] at h5)
          refine gp_pu (st' := .int (1) :: _) dX8_show_48 rfl ?_
          refine gp_iret dX8_show_49 rfl ?_
          first | (refine uOk ?zqa ?zqb (sc.rf _); (case zqa => (first | ((simp [w_sh, *]; done)) | (exfalso; contradiction))); (case zqb => (first | ((simp [*]; done)) | (exfalso; contradiction))))
        · (try simp only [bi_0, bi_1, Classical.not_not, e11, e13] at h5)
          refine gp_pu (st' := .int (0) :: _) dX8_show_44 rfl ?_
          refine gp_goto (t := 49) dX8_show_45 (by decide) ?_
          refine gp_iret dX8_show_49 rfl ?_
          first | (refine uOk ?zqa ?zqb (sc.rf _); (case zqa => (first | ((simp [w_sh, *]; done)) | (exfalso; contradiction))); (case zqb => (first | ((simp [*]; done)) | (exfalso; contradiction))))
      · (try simp only [bi_0, bi_1, Classical.not_not, e11, e13] at h4)
        refine gp_aload_n dX8_show_23 rfl ?_
        refine gp_pu (st' := .int (-1) :: _) dX8_show_24 rfl ?_
        refine gp_call (kind := 1) (args := [.ref _, .int _]) (rest := _) dX8_show_25 (Or.inr (Or.inl ⟨rfl, rfl⟩)) mk_8_79 (by decide) me_100 rfl rfl rfl rfl rfl (mm_rc_of (by first | rfl | assumption | (simp only [*]; done))) (ok_X8_refuse _ _ _ _) rfl ?_
        refine gp_iret dX8_show_28 rfl ?_
        first | (refine uNo ?zqa ?zqc; (case zqa => (first | ((simp [w_sh, *]; done)) | (exfalso; contradiction))); (case zqc => (unfold isW; decide)))

set_option maxHeartbeats 400000 in
theorem ml_show (d : Nat) (v : vN I N S) (hs : mR I C J) {s c : Int32} : cP (d + 3) 137 [.ref 108, .int s, .int c] (mm_sh, mm_R, J, L) (pX (some (.int (vq (w_sh N s c) (if c = -1 then 0 else 1)))) (lL (w_sh N s c) L L) (mR (uM (w_sh N s c) (v_sh I s.toNatClampNeg c) I) C)) := by
  have m0 : J 108 0 = nI N := (hs.r (by decide)).trans v.2.2.1
  have m1 : J 108 1 = nI S := (hs.r (by decide)).trans v.2.2.2.1
  refine cP.of_gP (d := d + 2) me_137 ⟨Nat.le_of_ble_eq_true rfl, rfl⟩ ?_
  show gP mm_cs0 _ _ _ _ _ _ [some (.ref _), some (.int _), some (.int _)] [] _ _
  refine gp_aload_n dX9_show_0 rfl ?_
  refine gp_iload_n dX9_show_1 rfl ?_
  refine gp_call (kind := 1) (args := [.ref _, .int _]) (rest := _) dX9_show_2 (Or.inr (Or.inl ⟨rfl, rfl⟩)) mk_9_123 (by decide) me_129 rfl rfl rfl rfl rfl (mm_rc_of (by first | rfl | assumption | (simp only [*]; done))) (ok_X9_isShelf _ _ _ _) rfl ?_
  refine gp_ifc (t := 21) dX9_show_5 (by decide) c1_eq (fun h1 => ?_) (fun h1 => ?_)
  · (try simp only [bi_0, bi_1, Classical.not_not, m0, m1] at h1)
    refine gp_aload_n dX9_show_21 rfl ?_
    refine gp_pu (st' := .int (-1) :: _) dX9_show_22 rfl ?_
    refine gp_call (kind := 1) (args := [.ref _, .int _]) (rest := _) dX9_show_23 (Or.inr (Or.inl ⟨rfl, rfl⟩)) mk_9_127 (by decide) me_127 rfl rfl rfl rfl rfl (mm_rc_of (by first | rfl | assumption | (simp only [*]; done))) (ok_X9_no _ _ _ _ (by decide)) rfl ?_
    refine gp_iret dX9_show_26 rfl ?_
    first | (refine uMo ?zqa ?zqc hs; (case zqa => (first | ((simp [w_sh, *]; done)) | (exfalso; contradiction))); (case zqc => (unfold isW; decide)))
  · (try simp only [bi_0, bi_1, Classical.not_not, m0, m1] at h1)
    refine gp_iload_n dX9_show_8 rfl ?_
    refine gp_pu (st' := .int (-1) :: _) dX9_show_9 rfl ?_
    refine gp_icc (t := 27) dX9_show_10 (by decide) c2_eq (fun h2 => ?_) (fun h2 => ?_)
    · (try simp only [bi_0, bi_1, Classical.not_not, m0, m1] at h2)
      have zqs1 := (mm_in_8 (x := s)).mpr (by assumption)
      refine gp_aload_n dX9_show_27 rfl ?_
      refine gp_gr dX9_show_28 mf_9_56 rfl (by first | rfl | assumption | (simp only [*]; done)) (by first | rfl | assumption | (simp only [*]; done)) ?_
      refine gp_iload_n dX9_show_31 rfl ?_
      refine gp_iload_n dX9_show_32 rfl ?_
      refine gp_pu (st' := .int (-1) :: _) dX9_show_33 rfl ?_
      refine gp_icc (t := 41) dX9_show_34 (by decide) c2_ne (fun h3 => ?_) (fun h3 => ?_)
      · (try simp only [bi_0, bi_1, Classical.not_not, m0, m1] at h3)
        refine gp_pu (st' := .int (2) :: _) dX9_show_41 rfl ?_
        refine gp_ias dX9_show_42 (by first | rfl | assumption | (simp only [*]; done)) (by first | rfl | assumption | (simp only [*]; done)) ?_
        refine gp_aload_n dX9_show_43 rfl ?_
        refine gp_gr dX9_show_44 mf_9_65 rfl (by first | rfl | assumption | (simp only [*]; done)) (by first | rfl | assumption | (simp only [*]; done)) ?_
        refine gp_iload_n dX9_show_47 rfl ?_
        refine gp_iload_n dX9_show_48 rfl ?_
        refine gp_ias dX9_show_49 (by first | rfl | assumption | (simp only [*]; done)) (by first | rfl | assumption | (simp only [*]; done)) ?_
        refine gp_iload_n dX9_show_50 rfl ?_
        refine gp_pu (st' := .int (-1) :: _) dX9_show_51 rfl ?_
        refine gp_icc (t := 59) dX9_show_52 (by decide) c2_ne (fun h4 => ?_) (fun h4 => ?_)
        · (try simp only [bi_0, bi_1, Classical.not_not, m0, m1] at h4)
          refine gp_pu (st' := .int (1) :: _) dX9_show_59 rfl ?_
          refine gp_iret dX9_show_60 rfl ?_
          first | (refine uMk ?zqa ?zqb (by unfold v_sh; first | (rw [if_pos (by assumption)]; exact (hs.uu (by decide)).uu (by decide)) | (rw [if_neg (by assumption)]; exact (hs.uu (by decide)).uu (by decide))); (case zqa => (first | ((simp [w_sh, *]; done)) | (exfalso; contradiction))); (case zqb => (first | ((simp [*]; done)) | (exfalso; contradiction))))
        · (try simp only [bi_0, bi_1, Classical.not_not, m0, m1] at h4)
          refine gp_pu (st' := .int (0) :: _) dX9_show_55 rfl ?_
          refine gp_goto (t := 60) dX9_show_56 (by decide) ?_
          refine gp_iret dX9_show_60 rfl ?_
          first | (refine uMk ?zqa ?zqb (by unfold v_sh; first | (rw [if_pos (by assumption)]; exact (hs.uu (by decide)).uu (by decide)) | (rw [if_neg (by assumption)]; exact (hs.uu (by decide)).uu (by decide))); (case zqa => (first | ((simp [w_sh, *]; done)) | (exfalso; contradiction))); (case zqb => (first | ((simp [*]; done)) | (exfalso; contradiction))))
      · (try simp only [bi_0, bi_1, Classical.not_not, m0, m1] at h3)
        refine gp_pu (st' := .int (0) :: _) dX9_show_37 rfl ?_
        refine gp_goto (t := 42) dX9_show_38 (by decide) ?_
        refine gp_ias dX9_show_42 (by first | rfl | assumption | (simp only [*]; done)) (by first | rfl | assumption | (simp only [*]; done)) ?_
        refine gp_aload_n dX9_show_43 rfl ?_
        refine gp_gr dX9_show_44 mf_9_65 rfl (by first | rfl | assumption | (simp only [*]; done)) (by first | rfl | assumption | (simp only [*]; done)) ?_
        refine gp_iload_n dX9_show_47 rfl ?_
        refine gp_iload_n dX9_show_48 rfl ?_
        refine gp_ias dX9_show_49 (by first | rfl | assumption | (simp only [*]; done)) (by first | rfl | assumption | (simp only [*]; done)) ?_
        refine gp_iload_n dX9_show_50 rfl ?_
        refine gp_pu (st' := .int (-1) :: _) dX9_show_51 rfl ?_
        refine gp_icc (t := 59) dX9_show_52 (by decide) c2_ne (fun h5 => ?_) (fun h5 => ?_)
        · (try simp only [bi_0, bi_1, Classical.not_not, m0, m1] at h5)
          refine gp_pu (st' := .int (1) :: _) dX9_show_59 rfl ?_
          refine gp_iret dX9_show_60 rfl ?_
          first | (refine uMk ?zqa ?zqb (by unfold v_sh; first | (rw [if_pos (by assumption)]; exact (hs.uu (by decide)).uu (by decide)) | (rw [if_neg (by assumption)]; exact (hs.uu (by decide)).uu (by decide))); (case zqa => (first | ((simp [w_sh, *]; done)) | (exfalso; contradiction))); (case zqb => (first | ((simp [*]; done)) | (exfalso; contradiction))))
        · (try simp only [bi_0, bi_1, Classical.not_not, m0, m1] at h5)
          refine gp_pu (st' := .int (0) :: _) dX9_show_55 rfl ?_
          refine gp_goto (t := 60) dX9_show_56 (by decide) ?_
          refine gp_iret dX9_show_60 rfl ?_
          first | (refine uMk ?zqa ?zqb (by unfold v_sh; first | (rw [if_pos (by assumption)]; exact (hs.uu (by decide)).uu (by decide)) | (rw [if_neg (by assumption)]; exact (hs.uu (by decide)).uu (by decide))); (case zqa => (first | ((simp [w_sh, *]; done)) | (exfalso; contradiction))); (case zqb => (first | ((simp [*]; done)) | (exfalso; contradiction))))
    · (try simp only [bi_0, bi_1, Classical.not_not, m0, m1] at h2)
      refine gp_aload_n dX9_show_13 rfl ?_
      refine gp_iload_n dX9_show_14 rfl ?_
      refine gp_call (kind := 1) (args := [.ref _, .int _]) (rest := _) dX9_show_15 (Or.inr (Or.inl ⟨rfl, rfl⟩)) mk_9_131 (by decide) me_130 rfl rfl rfl rfl rfl (mm_rc_of (by first | rfl | assumption | (simp only [*]; done))) (ok_X9_isChild _ _ _ _) rfl ?_
      refine gp_ifc (t := 27) dX9_show_18 (by decide) c1_ne (fun h6 => ?_) (fun h6 => ?_)
      · (try simp only [bi_0, bi_1, Classical.not_not, m0, m1] at h6)
        have zqs1 := (mm_in_8 (x := s)).mpr (by assumption)
        refine gp_aload_n dX9_show_27 rfl ?_
        refine gp_gr dX9_show_28 mf_9_56 rfl (by first | rfl | assumption | (simp only [*]; done)) (by first | rfl | assumption | (simp only [*]; done)) ?_
        refine gp_iload_n dX9_show_31 rfl ?_
        refine gp_iload_n dX9_show_32 rfl ?_
        refine gp_pu (st' := .int (-1) :: _) dX9_show_33 rfl ?_
        refine gp_icc (t := 41) dX9_show_34 (by decide) c2_ne (fun h7 => ?_) (fun h7 => ?_)
        · (try simp only [bi_0, bi_1, Classical.not_not, m0, m1] at h7)
          refine gp_pu (st' := .int (2) :: _) dX9_show_41 rfl ?_
          refine gp_ias dX9_show_42 (by first | rfl | assumption | (simp only [*]; done)) (by first | rfl | assumption | (simp only [*]; done)) ?_
          refine gp_aload_n dX9_show_43 rfl ?_
          refine gp_gr dX9_show_44 mf_9_65 rfl (by first | rfl | assumption | (simp only [*]; done)) (by first | rfl | assumption | (simp only [*]; done)) ?_
          refine gp_iload_n dX9_show_47 rfl ?_
          refine gp_iload_n dX9_show_48 rfl ?_
          refine gp_ias dX9_show_49 (by first | rfl | assumption | (simp only [*]; done)) (by first | rfl | assumption | (simp only [*]; done)) ?_
          refine gp_iload_n dX9_show_50 rfl ?_
          refine gp_pu (st' := .int (-1) :: _) dX9_show_51 rfl ?_
          refine gp_icc (t := 59) dX9_show_52 (by decide) c2_ne (fun h8 => ?_) (fun h8 => ?_)
          · (try simp only [bi_0, bi_1, Classical.not_not, m0, m1] at h8)
            refine gp_pu (st' := .int (1) :: _) dX9_show_59 rfl ?_
            refine gp_iret dX9_show_60 rfl ?_
            first | (refine uMk ?zqa ?zqb (by unfold v_sh; first | (rw [if_pos (by assumption)]; exact (hs.uu (by decide)).uu (by decide)) | (rw [if_neg (by assumption)]; exact (hs.uu (by decide)).uu (by decide))); (case zqa => (first | ((simp [w_sh, *]; done)) | (exfalso; contradiction))); (case zqb => (first | ((simp [*]; done)) | (exfalso; contradiction))))
          · (try simp only [bi_0, bi_1, Classical.not_not, m0, m1] at h8)
            refine gp_pu (st' := .int (0) :: _) dX9_show_55 rfl ?_
            refine gp_goto (t := 60) dX9_show_56 (by decide) ?_
            refine gp_iret dX9_show_60 rfl ?_
            first | (refine uMk ?zqa ?zqb (by unfold v_sh; first | (rw [if_pos (by assumption)]; exact (hs.uu (by decide)).uu (by decide)) | (rw [if_neg (by assumption)]; exact (hs.uu (by decide)).uu (by decide))); (case zqa => (first | ((simp [w_sh, *]; done)) | (exfalso; contradiction))); (case zqb => (first | ((simp [*]; done)) | (exfalso; contradiction))))
        · (try simp only [bi_0, bi_1, Classical.not_not, m0, m1] at h7)
          refine gp_pu (st' := .int (0) :: _) dX9_show_37 rfl ?_
          refine gp_goto (t := 42) dX9_show_38 (by decide) ?_
          refine gp_ias dX9_show_42 (by first | rfl | assumption | (simp only [*]; done)) (by first | rfl | assumption | (simp only [*]; done)) ?_
          refine gp_aload_n dX9_show_43 rfl ?_
          refine gp_gr dX9_show_44 mf_9_65 rfl (by first | rfl | assumption | (simp only [*]; done)) (by first | rfl | assumption | (simp only [*]; done)) ?_
          refine gp_iload_n dX9_show_47 rfl ?_
          refine gp_iload_n dX9_show_48 rfl ?_
          refine gp_ias dX9_show_49 (by first | rfl | assumption | (simp only [*]; done)) (by first | rfl | assumption | (simp only [*]; done)) ?_
          refine gp_iload_n dX9_show_50 rfl ?_
          refine gp_pu (st' := .int (-1) :: _) dX9_show_51 rfl ?_
          refine gp_icc (t := 59) dX9_show_52 (by decide) c2_ne (fun h9 => ?_) (fun h9 => ?_)
          · (try simp only [bi_0, bi_1, Classical.not_not, m0, m1] at h9)
            refine gp_pu (st' := .int (1) :: _) dX9_show_59 rfl ?_
            refine gp_iret dX9_show_60 rfl ?_
            first | (refine uMk ?zqa ?zqb (by unfold v_sh; first | (rw [if_pos (by assumption)]; exact (hs.uu (by decide)).uu (by decide)) | (rw [if_neg (by assumption)]; exact (hs.uu (by decide)).uu (by decide))); (case zqa => (first | ((simp [w_sh, *]; done)) | (exfalso; contradiction))); (case zqb => (first | ((simp [*]; done)) | (exfalso; contradiction))))
          · (try simp only [bi_0, bi_1, Classical.not_not, m0, m1] at h9)
            refine gp_pu (st' := .int (0) :: _) dX9_show_55 rfl ?_
            refine gp_goto (t := 60) dX9_show_56 (by decide) ?_
            refine gp_iret dX9_show_60 rfl ?_
            first | (refine uMk ?zqa ?zqb (by unfold v_sh; first | (rw [if_pos (by assumption)]; exact (hs.uu (by decide)).uu (by decide)) | (rw [if_neg (by assumption)]; exact (hs.uu (by decide)).uu (by decide))); (case zqa => (first | ((simp [w_sh, *]; done)) | (exfalso; contradiction))); (case zqb => (first | ((simp [*]; done)) | (exfalso; contradiction))))
      · (try simp only [bi_0, bi_1, Classical.not_not, m0, m1] at h6)
        refine gp_aload_n dX9_show_21 rfl ?_
        refine gp_pu (st' := .int (-1) :: _) dX9_show_22 rfl ?_
        refine gp_call (kind := 1) (args := [.ref _, .int _]) (rest := _) dX9_show_23 (Or.inr (Or.inl ⟨rfl, rfl⟩)) mk_9_127 (by decide) me_127 rfl rfl rfl rfl rfl (mm_rc_of (by first | rfl | assumption | (simp only [*]; done))) (ok_X9_no _ _ _ _ (by decide)) rfl ?_
        refine gp_iret dX9_show_26 rfl ?_
        first | (refine uMo ?zqa ?zqc hs; (case zqa => (first | ((simp [w_sh, *]; done)) | (exfalso; contradiction))); (case zqc => (unfold isW; decide)))

theorem eq_show (s c : Int32) : eqc 64 137 [.int s, .int c] := by
  refine eqc_u fun I L hR => ?_
  have hR0 := hR
  obtain ⟨N, S, hb, hS, hL, hK, hT, hW, hE⟩ := hR
  refine ⟨_, w_sh N s c, u_sh I s.toNatClampNeg c, v_sh I s.toNatClampNeg c, (fun L => L), (fun L => L), w_sh_w N s c, fun hw => ?_, cl_show 37 hb, fun C J K hs => ml_show 37 hb.1 hs, fun hw => ?_⟩
  · exact fun k hk => sr_other _ _ (by have := (sh_s (w_sh_0 hw).1).2.2.2.2; omega)
  · obtain ⟨a, b⟩ := w_sh_0 hw
    have h8 := (sh_s a).2.2.2.2
    refine hR0.sh h8 (fun k hk hn => sr_other _ _ hn) (fun k hk hn => ?_) (fun k h1 h2 t ht => ?_) ?_ hL
    · unfold v_sh
      rw [mm_u_k _ _ _ (by omega), mm_u_k _ _ _ (by omega)]
    · unfold v_sh
      rw [mm_u_i, if_neg (by omega), mm_u_i, if_neg (by omega)]
    · have e : mg (u_sh I s.toNatClampNeg c) (v_sh I s.toNatClampNeg c) (76 + 2 * s.toNatClampNeg) = upd (upd (I (76 + 2 * s.toNatClampNeg)) 0 c) 1 0 := by
        rw [mg_c _ _ (by omega)]; exact sr_same _ _ _
      have e2 : ∀ k, 108 ≤ k → mg (u_sh I s.toNatClampNeg c) (v_sh I s.toNatClampNeg c) k = v_sh I s.toNatClampNeg c k := fun k hk => mg_r _ _ hk
      unfold rSh
      rw [e, e2 118 (by omega), e2 119 (by omega), e2 120 (by omega), e2 121 (by omega), e2 108 (by omega)]
      have f0 : v_sh I s.toNatClampNeg c 118 s.toNatClampNeg = if c = -1 then 0 else 2 := by simp [v_sh, mm_u]
      have f1 : v_sh I s.toNatClampNeg c 121 s.toNatClampNeg = c := by simp [v_sh, mm_u]
      have f2 : v_sh I s.toNatClampNeg c 108 0 = I 108 0 := by simp [v_sh, mm_u]
      rw [f0, f1, f2]
      rcases b with rfl | b
      · exact Or.inl ⟨if_pos rfl, by simp [upd], by simp [upd]⟩
      · refine Or.inr (Or.inr ⟨if_neg ?_, by simp [upd], by simp [upd], b.1, by rw [hb.n.2.2.1]; exact b.2⟩)
        rintro rfl
        exact absurd b.1 (by decide)
end P67
