/-! PUBLIC METHODS: given, closed -/
section P98u
variable {I C J K : pI} {L : pL} {N S : Nat} {k : Nat} {law : Int32}

set_option maxHeartbeats 400000 in
theorem dn_cgi (d : Nat) (hb : bR I N S) {l i : Int32} {v5 : Option Value} (k0 : 0 < k) (k5 : k ≤ 5) (kN : k ≤ N) (kS : k ≤ S) (z2 : ¬ (¬ i = -1 ∧ (i < 0 ∨ nI k ≤ i))) (hT : ∀ c s, c < k → s < S → wi (tS I c s) 0 999) (hne : ¬ (y_gi I S l k).1 = -1) (hsJ : sc I J) (htb : tbl I 68 S k 0 J) : gP mm_cs0 (d + 7) 8 false (some .int) cX8_given 124 [some (.ref 0), some (.int l), some (.int (nI k)), some (.int i), some (.int (nI k)), v5] [] (mm_sh, mm_R, J, L) (pX (some (.int (q_gi I S l (nI k) i))) L (sc I)) := by
  have hS8 := hb.n.2.1
  have ht : ∀ c, c < k → ∀ s, s < S → J 68 (8 * c + s) = tS I c s := fun c hc s hs => htb c s hs (Or.inl hc)
  have hfd := ct_find (d + 5 - k) (L := L) (law := l) k0 k5 hS8 hT hsJ ht
  rw [show d + 5 - k + k + 2 = d + 7 by omega] at hfd
  refine gp_aload_n dX8_given_124 rfl ?_
  refine gp_gr dX8_given_125 mf_8_49 rfl (by first | rfl | assumption | (simp only [*]; done)) (by first | rfl | assumption | (simp only [*]; done)) ?_
  refine gp_iload_n dX8_given_128 rfl ?_
  refine gp_iload_n dX8_given_129 rfl ?_
  refine gp_aload_n dX8_given_130 rfl ?_
  refine gp_gr dX8_given_131 mf_8_10 rfl (by first | rfl | assumption | (simp only [*]; done)) (by first | rfl | assumption | (simp only [*]; done)) ?_
  refine gp_giv dX8_given_134 mf_8_161 (by decide) (by first | rfl | assumption | (simp only [*]; done)) (by first | exact hb.c13 hsJ | exact rfl) ?_
  refine gp_callX (kind := 1) (args := [.ref _, .int _, .int _, .int _]) (rest := _) dX8_given_137 (Or.inr (Or.inl ⟨rfl, rfl⟩)) mk_8_301 (by decide) me_12 rfl rfl rfl rfl rfl (mm_rc_of (by first | rfl | assumption | (simp only [*]; done))) hfd ?_
  intro K1 zqk1
  have hqa : i = -1 → K1 67 3 = q_gi I S l (nI k) i := fun h => by rw [q_gi, if_pos h, nI_clamp (by omega)]; exact zqk1.2.2.2.1.trans (if_neg hne)
  have hqb : ¬ i = -1 → K1 70 i.toNatClampNeg = q_gi I S l (nI k) i := fun h => by rw [q_gi, if_neg h, nI_clamp (by omega)]; exact zqk1.2.2.2.2.1 _ (by rw [if_neg (show ¬ (y_gv l (tS I) S k 0 0 0 0 999 y_g0 y_p0).1 = -1 from hne)]; exact (gi_i k5 z2 h).1)
  refine gp_iload_n dX8_given_140 rfl ?_
  refine gp_pu (st' := .int (-1) :: _) dX8_given_141 rfl ?_
  refine gp_icc (t := 155) dX8_given_142 (by decide) c2_ne (fun h1 => ?_) (fun h1 => ?_)
  · (try simp only [Classical.not_not] at h1)
    refine gp_aload_n dX8_given_155 rfl ?_
    refine gp_gr dX8_given_156 mf_8_49 rfl (by first | rfl | assumption | (simp only [*]; done)) (by first | rfl | assumption | (simp only [*]; done)) ?_
    refine gp_gr dX8_given_159 mf_8_307 rfl (by first | rfl | assumption | (simp only [*]; done)) (by first | rfl | assumption | (simp only [*]; done)) ?_
    refine gp_iload_n dX8_given_162 rfl ?_
    refine gp_ialv dX8_given_163 rfl (by first | rfl | assumption | (simp only [*]; done)) (gi_i k5 z2 h1).2 rfl ?_
    refine gp_iret dX8_given_164 rfl ?_
    (first | exact pX.mk (by rw [hqa h1]) zqk1.1 | exact pX.mk (by rw [hqb h1]) zqk1.1)
  · (try simp only [Classical.not_not] at h1)
    refine gp_aload_n dX8_given_145 rfl ?_
    refine gp_gr dX8_given_146 mf_8_49 rfl (by first | rfl | assumption | (simp only [*]; done)) (by first | rfl | assumption | (simp only [*]; done)) ?_
    refine gp_giv dX8_given_149 mf_8_304 (by decide) (by first | rfl | assumption | (simp only [*]; done)) (by first | exact hb.c13 hsJ | exact rfl) ?_
    refine gp_goto (t := 164) dX8_given_152 (by decide) ?_
    refine gp_iret dX8_given_164 rfl ?_
    (first | exact pX.mk (by rw [hqa h1]) zqk1.1 | exact pX.mk (by rw [hqb h1]) zqk1.1)

set_option maxHeartbeats 400000 in
theorem dn_mgi (d : Nat) (v : vN I N S) {l i : Int32} {v5 : Option Value} (k0 : 0 < k) (k5 : k ≤ 5) (kN : k ≤ N) (kS : k ≤ S) (z2 : ¬ (¬ i = -1 ∧ (i < 0 ∨ nI k ≤ i))) (hne : ¬ (y_gi I S l k).1 = -1) (hsJ : mR I C J) (htb : tbl I 129 S k 0 J) : gP mm_cs0 (d + k + 1) 9 false (some .int) cX9_given 113 [some (.ref 108), some (.int l), some (.int (nI k)), some (.int i), some (.int (nI k)), v5] [] (mm_sh, mm_R, J, L) (pX (some (.int (q_gi I S l (nI k) i))) L (mR I C)) := by
  have hg0 : gvM I C (tS I) S k y_p0 0 y_g0 (mm_u J 108 50 (-1)) := by
    refine ⟨hsJ.u (by decide) rfl, fun c hc s hs => ?_, mm_u_s _ _ _ _, fun j hj => ?_, fun j hj => absurd hj (Nat.not_lt_zero j)⟩
    · rw [mm_u_o _ _ _ _ (by decide)]; exact htb c s hs (Or.inl hc)
    · have hj : j < (if y_p0.1 = -1 then 0 else k) := hj
      rw [if_pos (show y_p0.1 = -1 from rfl)] at hj
      exact absurd hj (Nat.not_lt_zero j)
  refine gp_aload_n dX9_given_113 rfl ?_
  refine gp_pu (st' := .int (-1) :: _) dX9_given_114 rfl ?_
  refine gp_pi dX9_given_115 mf_9_314 rfl rfl (by first | rfl | assumption | (simp only [*]; done)) ?_
  refine gp_aload_n dX9_given_118 rfl ?_
  refine gp_iload_n dX9_given_119 rfl ?_
  refine gp_pu (st' := .int (0) :: _) dX9_given_120 rfl ?_
  refine gp_iload_n dX9_given_121 rfl ?_
  refine gp_pu (st' := .int (0) :: _) dX9_given_122 rfl ?_
  refine gp_pu (st' := .int (0) :: _) dX9_given_123 rfl ?_
  refine gp_pu (st' := .int (0) :: _) dX9_given_124 rfl ?_
  refine gp_pu (st' := .int (999) :: _) dX9_given_125 rfl ?_
  refine gp_callX (kind := 1) (args := [.ref _, .int _, .int _, .int _, .int _, .int _, .int _, .int _]) (rest := _) dX9_given_128 (Or.inr (Or.inl ⟨rfl, rfl⟩)) mk_9_317 (by decide) me_192 rfl rfl rfl rfl rfl (mm_rc_of (by first | rfl | assumption | (simp only [*]; done))) (mt_gives v k5 k d 0 0 0 0 999 y_g0 y_p0 _ (by omega) hg0) ?_
  intro K1 zqk1
  have hqa : i = -1 → K1 108 50 = q_gi I S l (nI k) i := fun h => by rw [q_gi, if_pos h, nI_clamp (by omega)]; exact zqk1.2.2.1
  have hqb : ¬ i = -1 → K1 131 i.toNatClampNeg = q_gi I S l (nI k) i := fun h => by rw [q_gi, if_neg h, nI_clamp (by omega)]; exact zqk1.2.2.2.1 _ (by rw [if_neg (show ¬ (y_gv l (tS I) S k 0 0 0 0 999 y_g0 y_p0).1 = -1 from hne)]; exact (gi_i k5 z2 h).1)
  refine gp_iload_n dX9_given_131 rfl ?_
  refine gp_pu (st' := .int (-1) :: _) dX9_given_132 rfl ?_
  refine gp_icc (t := 143) dX9_given_133 (by decide) c2_ne (fun h1 => ?_) (fun h1 => ?_)
  · (try simp only [Classical.not_not] at h1)
    refine gp_aload_n dX9_given_143 rfl ?_
    refine gp_gr dX9_given_144 mf_9_96 rfl (by first | rfl | assumption | (simp only [*]; done)) (by first | rfl | assumption | (simp only [*]; done)) ?_
    refine gp_iload_n dX9_given_147 rfl ?_
    refine gp_ialv dX9_given_148 rfl (by first | rfl | assumption | (simp only [*]; done)) (gi_i k5 z2 h1).2 rfl ?_
    refine gp_iret dX9_given_149 rfl ?_
    (first | exact pX.mk (by rw [hqa h1]) zqk1.1 | exact pX.mk (by rw [hqb h1]) zqk1.1)
  · (try simp only [Classical.not_not] at h1)
    refine gp_aload_n dX9_given_136 rfl ?_
    refine gp_giv dX9_given_137 mf_9_314 (by decide) (by first | rfl | assumption | (simp only [*]; done)) (by first | exact rfl) ?_
    refine gp_goto (t := 149) dX9_given_140 (by decide) ?_
    refine gp_iret dX9_given_149 rfl ?_
    (first | exact pX.mk (by rw [hqa h1]) zqk1.1 | exact pX.mk (by rw [hqb h1]) zqk1.1)

set_option maxHeartbeats 400000 in
theorem cl_given (d : Nat) (hb : bR I N S) {l n i : Int32} : cP (d + 13) 81 [.ref 0, .int l, .int n, .int i] (mm_sh, mm_R, I, L) (pX (some (.int (vq (w_gi N S l n i) (q_gi I S l n i)))) L (sc (rI I (w_gi N S l n i)))) := by
  have hs := sc.rf I
  have e11 : I 1 1 = nI N := hb.c11 hs
  have e13 : I 1 3 = nI S := hb.c13 hs
  refine cP.of_gP (d := d + 12) me_81 ⟨Nat.le_of_ble_eq_true rfl, rfl⟩ ?_
  show gP mm_cs0 _ _ _ _ _ _ [some (.ref _), some (.int _), some (.int _), some (.int _), none, none] [] _ _
  refine gp_iload_n dX8_given_0 rfl ?_
  refine gp_ifc (t := 41) dX8_given_1 (by decide) c1_lt (fun h1 => ?_) (fun h1 => ?_)
  · have h1' := Int32.not_le.mpr h1
    (try simp only [Classical.not_not, e11, e13] at h1)
    refine gp_aload_n dX8_given_41 rfl ?_
    refine gp_pu (st' := .int (-6) :: _) dX8_given_42 rfl ?_
    refine gp_call (kind := 1) (args := [.ref _, .int _]) (rest := _) dX8_given_44 (Or.inr (Or.inl ⟨rfl, rfl⟩)) mk_8_79 (by decide) me_100 rfl rfl rfl rfl rfl (mm_rc_of (by first | rfl | assumption | (simp only [*]; done))) (ok_X8_refuse _ _ _ _) rfl ?_
    refine gp_iret dX8_given_47 rfl ?_
    (refine cNo ?zqa ?zqc; (case zqa => (first | ((simp [w_gi, *]; done)) | (exfalso; first | contradiction | (simp_all; done)))); (case zqc => (unfold isW; decide)))
  · have h1' := Int32.not_lt.mp h1
    (try simp only [Classical.not_not, e11, e13] at h1)
    refine gp_iload_n dX8_given_4 rfl ?_
    refine gp_pu (st' := .int (2) :: _) dX8_given_5 rfl ?_
    refine gp_icc (t := 41) dX8_given_6 (by decide) c2_gt (fun h2 => ?_) (fun h2 => ?_)
    · have h2' := Int32.not_le.mpr h2
      (try simp only [Classical.not_not, e11, e13] at h2)
      refine gp_aload_n dX8_given_41 rfl ?_
      refine gp_pu (st' := .int (-6) :: _) dX8_given_42 rfl ?_
      refine gp_call (kind := 1) (args := [.ref _, .int _]) (rest := _) dX8_given_44 (Or.inr (Or.inl ⟨rfl, rfl⟩)) mk_8_79 (by decide) me_100 rfl rfl rfl rfl rfl (mm_rc_of (by first | rfl | assumption | (simp only [*]; done))) (ok_X8_refuse _ _ _ _) rfl ?_
      refine gp_iret dX8_given_47 rfl ?_
      (refine cNo ?zqa ?zqc; (case zqa => (first | ((simp [w_gi, *]; done)) | (exfalso; first | contradiction | (simp_all; done)))); (case zqc => (unfold isW; decide)))
    · have h2' := Int32.not_lt.mp h2
      (try simp only [Classical.not_not, e11, e13] at h2)
      refine gp_iload_n dX8_given_9 rfl ?_
      refine gp_pu (st' := .int (1) :: _) dX8_given_10 rfl ?_
      refine gp_icc (t := 41) dX8_given_11 (by decide) c2_lt (fun h3 => ?_) (fun h3 => ?_)
      · have h3' := Int32.not_le.mpr h3
        (try simp only [Classical.not_not, e11, e13] at h3)
        refine gp_aload_n dX8_given_41 rfl ?_
        refine gp_pu (st' := .int (-6) :: _) dX8_given_42 rfl ?_
        refine gp_call (kind := 1) (args := [.ref _, .int _]) (rest := _) dX8_given_44 (Or.inr (Or.inl ⟨rfl, rfl⟩)) mk_8_79 (by decide) me_100 rfl rfl rfl rfl rfl (mm_rc_of (by first | rfl | assumption | (simp only [*]; done))) (ok_X8_refuse _ _ _ _) rfl ?_
        refine gp_iret dX8_given_47 rfl ?_
        (refine cNo ?zqa ?zqc; (case zqa => (first | ((simp [w_gi, *]; done)) | (exfalso; first | contradiction | (simp_all; done)))); (case zqc => (unfold isW; decide)))
      · have h3' := Int32.not_lt.mp h3
        (try simp only [Classical.not_not, e11, e13] at h3)
        refine gp_iload_n dX8_given_14 rfl ?_
        refine gp_pu (st' := .int (5) :: _) dX8_given_15 rfl ?_
        refine gp_icc (t := 41) dX8_given_16 (by decide) c2_gt (fun h4 => ?_) (fun h4 => ?_)
        · have h4' := Int32.not_le.mpr h4
          (try simp only [Classical.not_not, e11, e13] at h4)
          refine gp_aload_n dX8_given_41 rfl ?_
          refine gp_pu (st' := .int (-6) :: _) dX8_given_42 rfl ?_
          refine gp_call (kind := 1) (args := [.ref _, .int _]) (rest := _) dX8_given_44 (Or.inr (Or.inl ⟨rfl, rfl⟩)) mk_8_79 (by decide) me_100 rfl rfl rfl rfl rfl (mm_rc_of (by first | rfl | assumption | (simp only [*]; done))) (ok_X8_refuse _ _ _ _) rfl ?_
          refine gp_iret dX8_given_47 rfl ?_
          (refine cNo ?zqa ?zqc; (case zqa => (first | ((simp [w_gi, *]; done)) | (exfalso; first | contradiction | (simp_all; done)))); (case zqc => (unfold isW; decide)))
        · have h4' := Int32.not_lt.mp h4
          (try simp only [Classical.not_not, e11, e13] at h4)
          refine gp_iload_n dX8_given_19 rfl ?_
          refine gp_aload_n dX8_given_20 rfl ?_
          refine gp_gr dX8_given_21 mf_8_10 rfl (by first | rfl | assumption | (simp only [*]; done)) (by first | rfl | assumption | (simp only [*]; done)) ?_
          refine gp_giv dX8_given_24 mf_8_154 (by decide) (by first | rfl | assumption | (simp only [*]; done)) (by first | exact e11 | exact e13 | exact rfl) ?_
          refine gp_icc (t := 41) dX8_given_27 (by decide) c2_gt (fun h5 => ?_) (fun h5 => ?_)
          · have h5' := Int32.not_le.mpr h5
            (try simp only [Classical.not_not, e11, e13] at h5)
            refine gp_aload_n dX8_given_41 rfl ?_
            refine gp_pu (st' := .int (-6) :: _) dX8_given_42 rfl ?_
            refine gp_call (kind := 1) (args := [.ref _, .int _]) (rest := _) dX8_given_44 (Or.inr (Or.inl ⟨rfl, rfl⟩)) mk_8_79 (by decide) me_100 rfl rfl rfl rfl rfl (mm_rc_of (by first | rfl | assumption | (simp only [*]; done))) (ok_X8_refuse _ _ _ _) rfl ?_
            refine gp_iret dX8_given_47 rfl ?_
            (refine cNo ?zqa ?zqc; (case zqa => (first | ((simp [w_gi, *]; done)) | (exfalso; first | contradiction | (simp_all; done)))); (case zqc => (unfold isW; decide)))
          · have h5' := Int32.not_lt.mp h5
            (try simp only [Classical.not_not, e11, e13] at h5)
            refine gp_iload_n dX8_given_30 rfl ?_
            refine gp_aload_n dX8_given_31 rfl ?_
            refine gp_gr dX8_given_32 mf_8_10 rfl (by first | rfl | assumption | (simp only [*]; done)) (by first | rfl | assumption | (simp only [*]; done)) ?_
            refine gp_giv dX8_given_35 mf_8_161 (by decide) (by first | rfl | assumption | (simp only [*]; done)) (by first | exact e11 | exact e13 | exact rfl) ?_
            refine gp_icc (t := 48) dX8_given_38 (by decide) c2_le (fun h6 => ?_) (fun h6 => ?_)
            · have h6' := Int32.not_lt.mpr h6
              (try simp only [Classical.not_not, e11, e13] at h6)
              refine gp_iload_n dX8_given_48 rfl ?_
              refine gp_pu (st' := .int (-1) :: _) dX8_given_49 rfl ?_
              refine gp_icc (t := 69) dX8_given_50 (by decide) c2_eq (fun h7 => ?_) (fun h7 => ?_)
              · (try simp only [Classical.not_not, e11, e13] at h7)
                refine gp_pu (st' := .int (0) :: _) dX8_given_69 rfl ?_
                refine gp_istore (ls' := [some (.ref _), some (.int _), some (.int _), some (.int _), some (.int _), none]) dX8_given_70 rfl (Nat.le_of_ble_eq_true rfl) ?_
                (have z1 : ¬ (l < 0 ∨ 2 < l ∨ n < 1 ∨ 5 < n ∨ nI N < n ∨ nI S < n) := by rintro (q | q | q | q | q | q) <;> contradiction
                 have z2 : ¬ (¬ i = -1 ∧ (i < 0 ∨ n ≤ i)) := by rintro ⟨q, q2⟩; rcases q2 with q2 | q2 <;> contradiction
                 have hw : w_gi N S l n i = 0 := by unfold w_gi; rw [if_neg z1, if_neg z2]
                 obtain ⟨k, rfl, k0, k5, kN, kS⟩ := gi_k hb.n.1 hb.n.2.1 z1
                 have hT : ∀ c s, c < k → s < S → wi (tS I c s) 0 999 := fun c s h1 _ => tS_wi hb.1 (by have := hb.n.1; omega) s
                 have hne := y_gi_ne (law := l) hb.1 k0 k5 kN kS
                 refine (lp_cgo (d + 5) hb k5 kN (fun v5 J hsJ htb => dn_cgi (d + 5) hb k0 k5 kN kS z2 hT hne hsJ htb) k 0 none I (by omega) hs (fun c s _ q => absurd q (by omega))).mono (fun r M q => ?_)
                 rw [hw]
                 exact q)
              · (try simp only [Classical.not_not, e11, e13] at h7)
                refine gp_iload_n dX8_given_53 rfl ?_
                refine gp_ifc (t := 62) dX8_given_54 (by decide) c1_lt (fun h8 => ?_) (fun h8 => ?_)
                · have h8' := Int32.not_le.mpr h8
                  (try simp only [Classical.not_not, e11, e13] at h8)
                  refine gp_aload_n dX8_given_62 rfl ?_
                  refine gp_pu (st' := .int (-5) :: _) dX8_given_63 rfl ?_
                  refine gp_call (kind := 1) (args := [.ref _, .int _]) (rest := _) dX8_given_65 (Or.inr (Or.inl ⟨rfl, rfl⟩)) mk_8_79 (by decide) me_100 rfl rfl rfl rfl rfl (mm_rc_of (by first | rfl | assumption | (simp only [*]; done))) (ok_X8_refuse _ _ _ _) rfl ?_
                  refine gp_iret dX8_given_68 rfl ?_
                  (refine cNo ?zqa ?zqc; (case zqa => (first | ((simp [w_gi, *]; done)) | (exfalso; first | contradiction | (simp_all; done)))); (case zqc => (unfold isW; decide)))
                · have h8' := Int32.not_lt.mp h8
                  (try simp only [Classical.not_not, e11, e13] at h8)
                  refine gp_iload_n dX8_given_57 rfl ?_
                  refine gp_iload_n dX8_given_58 rfl ?_
                  refine gp_icc (t := 69) dX8_given_59 (by decide) c2_lt (fun h9 => ?_) (fun h9 => ?_)
                  · have h9' := Int32.not_le.mpr h9
                    (try simp only [Classical.not_not, e11, e13] at h9)
                    refine gp_pu (st' := .int (0) :: _) dX8_given_69 rfl ?_
                    refine gp_istore (ls' := [some (.ref _), some (.int _), some (.int _), some (.int _), some (.int _), none]) dX8_given_70 rfl (Nat.le_of_ble_eq_true rfl) ?_
                    (have z1 : ¬ (l < 0 ∨ 2 < l ∨ n < 1 ∨ 5 < n ∨ nI N < n ∨ nI S < n) := by rintro (q | q | q | q | q | q) <;> contradiction
                     have z2 : ¬ (¬ i = -1 ∧ (i < 0 ∨ n ≤ i)) := by rintro ⟨q, q2⟩; rcases q2 with q2 | q2 <;> contradiction
                     have hw : w_gi N S l n i = 0 := by unfold w_gi; rw [if_neg z1, if_neg z2]
                     obtain ⟨k, rfl, k0, k5, kN, kS⟩ := gi_k hb.n.1 hb.n.2.1 z1
                     have hT : ∀ c s, c < k → s < S → wi (tS I c s) 0 999 := fun c s h1 _ => tS_wi hb.1 (by have := hb.n.1; omega) s
                     have hne := y_gi_ne (law := l) hb.1 k0 k5 kN kS
                     refine (lp_cgo (d + 5) hb k5 kN (fun v5 J hsJ htb => dn_cgi (d + 5) hb k0 k5 kN kS z2 hT hne hsJ htb) k 0 none I (by omega) hs (fun c s _ q => absurd q (by omega))).mono (fun r M q => ?_)
                     rw [hw]
                     exact q)
                  · have h9' := Int32.not_lt.mp h9
                    (try simp only [Classical.not_not, e11, e13] at h9)
                    refine gp_aload_n dX8_given_62 rfl ?_
                    refine gp_pu (st' := .int (-5) :: _) dX8_given_63 rfl ?_
                    refine gp_call (kind := 1) (args := [.ref _, .int _]) (rest := _) dX8_given_65 (Or.inr (Or.inl ⟨rfl, rfl⟩)) mk_8_79 (by decide) me_100 rfl rfl rfl rfl rfl (mm_rc_of (by first | rfl | assumption | (simp only [*]; done))) (ok_X8_refuse _ _ _ _) rfl ?_
                    refine gp_iret dX8_given_68 rfl ?_
                    (refine cNo ?zqa ?zqc; (case zqa => (first | ((simp [w_gi, *]; done)) | (exfalso; first | contradiction | (simp_all; done)))); (case zqc => (unfold isW; decide)))
            · have h6' := Int32.not_le.mp h6
              (try simp only [Classical.not_not, e11, e13] at h6)
              refine gp_aload_n dX8_given_41 rfl ?_
              refine gp_pu (st' := .int (-6) :: _) dX8_given_42 rfl ?_
              refine gp_call (kind := 1) (args := [.ref _, .int _]) (rest := _) dX8_given_44 (Or.inr (Or.inl ⟨rfl, rfl⟩)) mk_8_79 (by decide) me_100 rfl rfl rfl rfl rfl (mm_rc_of (by first | rfl | assumption | (simp only [*]; done))) (ok_X8_refuse _ _ _ _) rfl ?_
              refine gp_iret dX8_given_47 rfl ?_
              (refine cNo ?zqa ?zqc; (case zqa => (first | ((simp [w_gi, *]; done)) | (exfalso; first | contradiction | (simp_all; done)))); (case zqc => (unfold isW; decide)))

set_option maxHeartbeats 400000 in
theorem ml_given (d : Nat) (v : vN I N S) (hs : mR I C J) {l n i : Int32} : cP (d + 16) 193 [.ref 108, .int l, .int n, .int i] (mm_sh, mm_R, J, L) (pX (some (.int (vq (w_gi N S l n i) (q_gi I S l n i)))) L (mR (rM I (w_gi N S l n i)) C)) := by
  have m0 : J 108 0 = nI N := (hs.r (by decide)).trans v.2.2.1
  have m1 : J 108 1 = nI S := (hs.r (by decide)).trans v.2.2.2.1
  refine cP.of_gP (d := d + 15) me_193 ⟨Nat.le_of_ble_eq_true rfl, rfl⟩ ?_
  show gP mm_cs0 _ _ _ _ _ _ [some (.ref _), some (.int _), some (.int _), some (.int _), none, none] [] _ _
  refine gp_iload_n dX9_given_0 rfl ?_
  refine gp_ifc (t := 35) dX9_given_1 (by decide) c1_lt (fun h1 => ?_) (fun h1 => ?_)
  · have h1' := Int32.not_le.mpr h1
    (try simp only [Classical.not_not, m0, m1] at h1)
    refine gp_aload_n dX9_given_35 rfl ?_
    refine gp_pu (st' := .int (-6) :: _) dX9_given_36 rfl ?_
    refine gp_call (kind := 1) (args := [.ref _, .int _]) (rest := _) dX9_given_38 (Or.inr (Or.inl ⟨rfl, rfl⟩)) mk_9_127 (by decide) me_127 rfl rfl rfl rfl rfl (mm_rc_of (by first | rfl | assumption | (simp only [*]; done))) (ok_X9_no _ _ _ _ (by decide)) rfl ?_
    refine gp_iret dX9_given_41 rfl ?_
    first | (refine mNo ?zqa ?zqc hs; (case zqa => (first | ((simp [w_gi, *]; done)) | (exfalso; first | contradiction | (simp_all; done)))); (case zqc => (unfold isW; decide)))
  · have h1' := Int32.not_lt.mp h1
    (try simp only [Classical.not_not, m0, m1] at h1)
    refine gp_iload_n dX9_given_4 rfl ?_
    refine gp_pu (st' := .int (2) :: _) dX9_given_5 rfl ?_
    refine gp_icc (t := 35) dX9_given_6 (by decide) c2_gt (fun h2 => ?_) (fun h2 => ?_)
    · have h2' := Int32.not_le.mpr h2
      (try simp only [Classical.not_not, m0, m1] at h2)
      refine gp_aload_n dX9_given_35 rfl ?_
      refine gp_pu (st' := .int (-6) :: _) dX9_given_36 rfl ?_
      refine gp_call (kind := 1) (args := [.ref _, .int _]) (rest := _) dX9_given_38 (Or.inr (Or.inl ⟨rfl, rfl⟩)) mk_9_127 (by decide) me_127 rfl rfl rfl rfl rfl (mm_rc_of (by first | rfl | assumption | (simp only [*]; done))) (ok_X9_no _ _ _ _ (by decide)) rfl ?_
      refine gp_iret dX9_given_41 rfl ?_
      first | (refine mNo ?zqa ?zqc hs; (case zqa => (first | ((simp [w_gi, *]; done)) | (exfalso; first | contradiction | (simp_all; done)))); (case zqc => (unfold isW; decide)))
    · have h2' := Int32.not_lt.mp h2
      (try simp only [Classical.not_not, m0, m1] at h2)
      refine gp_iload_n dX9_given_9 rfl ?_
      refine gp_pu (st' := .int (1) :: _) dX9_given_10 rfl ?_
      refine gp_icc (t := 35) dX9_given_11 (by decide) c2_lt (fun h3 => ?_) (fun h3 => ?_)
      · have h3' := Int32.not_le.mpr h3
        (try simp only [Classical.not_not, m0, m1] at h3)
        refine gp_aload_n dX9_given_35 rfl ?_
        refine gp_pu (st' := .int (-6) :: _) dX9_given_36 rfl ?_
        refine gp_call (kind := 1) (args := [.ref _, .int _]) (rest := _) dX9_given_38 (Or.inr (Or.inl ⟨rfl, rfl⟩)) mk_9_127 (by decide) me_127 rfl rfl rfl rfl rfl (mm_rc_of (by first | rfl | assumption | (simp only [*]; done))) (ok_X9_no _ _ _ _ (by decide)) rfl ?_
        refine gp_iret dX9_given_41 rfl ?_
        first | (refine mNo ?zqa ?zqc hs; (case zqa => (first | ((simp [w_gi, *]; done)) | (exfalso; first | contradiction | (simp_all; done)))); (case zqc => (unfold isW; decide)))
      · have h3' := Int32.not_lt.mp h3
        (try simp only [Classical.not_not, m0, m1] at h3)
        refine gp_iload_n dX9_given_14 rfl ?_
        refine gp_pu (st' := .int (5) :: _) dX9_given_15 rfl ?_
        refine gp_icc (t := 35) dX9_given_16 (by decide) c2_gt (fun h4 => ?_) (fun h4 => ?_)
        · have h4' := Int32.not_le.mpr h4
          (try simp only [Classical.not_not, m0, m1] at h4)
          refine gp_aload_n dX9_given_35 rfl ?_
          refine gp_pu (st' := .int (-6) :: _) dX9_given_36 rfl ?_
          refine gp_call (kind := 1) (args := [.ref _, .int _]) (rest := _) dX9_given_38 (Or.inr (Or.inl ⟨rfl, rfl⟩)) mk_9_127 (by decide) me_127 rfl rfl rfl rfl rfl (mm_rc_of (by first | rfl | assumption | (simp only [*]; done))) (ok_X9_no _ _ _ _ (by decide)) rfl ?_
          refine gp_iret dX9_given_41 rfl ?_
          first | (refine mNo ?zqa ?zqc hs; (case zqa => (first | ((simp [w_gi, *]; done)) | (exfalso; first | contradiction | (simp_all; done)))); (case zqc => (unfold isW; decide)))
        · have h4' := Int32.not_lt.mp h4
          (try simp only [Classical.not_not, m0, m1] at h4)
          refine gp_iload_n dX9_given_19 rfl ?_
          refine gp_aload_n dX9_given_20 rfl ?_
          refine gp_giv dX9_given_21 mf_9_117 (by decide) (by first | rfl | assumption | (simp only [*]; done)) (by first | exact m0 | exact m1 | exact rfl) ?_
          refine gp_icc (t := 35) dX9_given_24 (by decide) c2_gt (fun h5 => ?_) (fun h5 => ?_)
          · have h5' := Int32.not_le.mpr h5
            (try simp only [Classical.not_not, m0, m1] at h5)
            refine gp_aload_n dX9_given_35 rfl ?_
            refine gp_pu (st' := .int (-6) :: _) dX9_given_36 rfl ?_
            refine gp_call (kind := 1) (args := [.ref _, .int _]) (rest := _) dX9_given_38 (Or.inr (Or.inl ⟨rfl, rfl⟩)) mk_9_127 (by decide) me_127 rfl rfl rfl rfl rfl (mm_rc_of (by first | rfl | assumption | (simp only [*]; done))) (ok_X9_no _ _ _ _ (by decide)) rfl ?_
            refine gp_iret dX9_given_41 rfl ?_
            first | (refine mNo ?zqa ?zqc hs; (case zqa => (first | ((simp [w_gi, *]; done)) | (exfalso; first | contradiction | (simp_all; done)))); (case zqc => (unfold isW; decide)))
          · have h5' := Int32.not_lt.mp h5
            (try simp only [Classical.not_not, m0, m1] at h5)
            refine gp_iload_n dX9_given_27 rfl ?_
            refine gp_aload_n dX9_given_28 rfl ?_
            refine gp_giv dX9_given_29 mf_9_120 (by decide) (by first | rfl | assumption | (simp only [*]; done)) (by first | exact m0 | exact m1 | exact rfl) ?_
            refine gp_icc (t := 42) dX9_given_32 (by decide) c2_le (fun h6 => ?_) (fun h6 => ?_)
            · have h6' := Int32.not_lt.mpr h6
              (try simp only [Classical.not_not, m0, m1] at h6)
              refine gp_iload_n dX9_given_42 rfl ?_
              refine gp_pu (st' := .int (-1) :: _) dX9_given_43 rfl ?_
              refine gp_icc (t := 52) dX9_given_44 (by decide) c2_lt (fun h7 => ?_) (fun h7 => ?_)
              · have h7' := Int32.not_le.mpr h7
                have zq5 : ¬ i = -1 ∧ (i < 0 ∨ n ≤ i) := by first | exact gi_a h7 | exact gi_b h3 h8
                (try simp only [Classical.not_not, m0, m1] at h7)
                refine gp_aload_n dX9_given_52 rfl ?_
                refine gp_pu (st' := .int (-5) :: _) dX9_given_53 rfl ?_
                refine gp_call (kind := 1) (args := [.ref _, .int _]) (rest := _) dX9_given_55 (Or.inr (Or.inl ⟨rfl, rfl⟩)) mk_9_127 (by decide) me_127 rfl rfl rfl rfl rfl (mm_rc_of (by first | rfl | assumption | (simp only [*]; done))) (ok_X9_no _ _ _ _ (by decide)) rfl ?_
                refine gp_iret dX9_given_58 rfl ?_
                first | (refine mNo ?zqa ?zqc hs; (case zqa => (first | ((simp [w_gi, *]; done)) | (exfalso; first | contradiction | (simp_all; done)))); (case zqc => (unfold isW; decide)))
              · have h7' := Int32.not_lt.mp h7
                (try simp only [Classical.not_not, m0, m1] at h7)
                refine gp_iload_n dX9_given_47 rfl ?_
                refine gp_iload_n dX9_given_48 rfl ?_
                refine gp_icc (t := 59) dX9_given_49 (by decide) c2_lt (fun h8 => ?_) (fun h8 => ?_)
                · have h8' := Int32.not_le.mpr h8
                  (try simp only [Classical.not_not, m0, m1] at h8)
                  refine gp_pu (st' := .int (0) :: _) dX9_given_59 rfl ?_
                  refine gp_istore (ls' := [some (.ref _), some (.int _), some (.int _), some (.int _), some (.int _), none]) dX9_given_60 rfl (Nat.le_of_ble_eq_true rfl) ?_
                  (have z1 : ¬ (l < 0 ∨ 2 < l ∨ n < 1 ∨ 5 < n ∨ nI N < n ∨ nI S < n) := by rintro (q | q | q | q | q | q) <;> contradiction
                   have z2 : ¬ (¬ i = -1 ∧ (i < 0 ∨ n ≤ i)) := gi_c h7 h8
                   have hw : w_gi N S l n i = 0 := by unfold w_gi; rw [if_neg z1, if_neg z2]
                   obtain ⟨k, rfl, k0, k5, kN, kS⟩ := gi_k v.1 v.2.1 z1
                   have hT : ∀ c s, c < k → s < S → wi (tS I c s) 0 999 := fun c s h1 _ => tS_wi v (by have := v.1; omega) s
                   have hne := y_gi_ne (law := l) v k0 k5 kN kS
                   refine (lp_mgo (d + 7) (Q := pX (some (.int (q_gi I S l (nI k) i))) L (mR I C)) v k5 kN (fun v5 J hsJ htb => ?_) k 0 none J (by omega) hs (fun c s _ q => absurd q (by omega))).mono (fun r M q => ?_)
                   · have e := dn_mgi (d + 14 - k) (L := L) (v5 := v5) v k0 k5 kN kS z2 hne hsJ htb
                     rw [show d + 14 - k + k + 1 = d + 7 + 8 by omega] at e
                     exact e
                   · rw [hw]
                     exact q)
                · have h8' := Int32.not_lt.mp h8
                  have zq5 : ¬ i = -1 ∧ (i < 0 ∨ n ≤ i) := by first | exact gi_a h7 | exact gi_b h3 h8
                  (try simp only [Classical.not_not, m0, m1] at h8)
                  refine gp_aload_n dX9_given_52 rfl ?_
                  refine gp_pu (st' := .int (-5) :: _) dX9_given_53 rfl ?_
                  refine gp_call (kind := 1) (args := [.ref _, .int _]) (rest := _) dX9_given_55 (Or.inr (Or.inl ⟨rfl, rfl⟩)) mk_9_127 (by decide) me_127 rfl rfl rfl rfl rfl (mm_rc_of (by first | rfl | assumption | (simp only [*]; done))) (ok_X9_no _ _ _ _ (by decide)) rfl ?_
                  refine gp_iret dX9_given_58 rfl ?_
                  first | (refine mNo ?zqa ?zqc hs; (case zqa => (first | ((simp [w_gi, *]; done)) | (exfalso; first | contradiction | (simp_all; done)))); (case zqc => (unfold isW; decide)))
            · have h6' := Int32.not_le.mp h6
              (try simp only [Classical.not_not, m0, m1] at h6)
              refine gp_aload_n dX9_given_35 rfl ?_
              refine gp_pu (st' := .int (-6) :: _) dX9_given_36 rfl ?_
              refine gp_call (kind := 1) (args := [.ref _, .int _]) (rest := _) dX9_given_38 (Or.inr (Or.inl ⟨rfl, rfl⟩)) mk_9_127 (by decide) me_127 rfl rfl rfl rfl rfl (mm_rc_of (by first | rfl | assumption | (simp only [*]; done))) (ok_X9_no _ _ _ _ (by decide)) rfl ?_
              refine gp_iret dX9_given_41 rfl ?_
              first | (refine mNo ?zqa ?zqc hs; (case zqa => (first | ((simp [w_gi, *]; done)) | (exfalso; first | contradiction | (simp_all; done)))); (case zqc => (unfold isW; decide)))

theorem eq_given (l n i : Int32) : eqc 81 193 [.int l, .int n, .int i] := by
  refine eqc_q fun I L hR => ?_
  obtain ⟨N, S, hb, hS, hL, hK, hT, hW, hE⟩ := hR
  refine ⟨_, w_gi N S l n i, w_gi_w N S l n i, cl_given 27 hb, fun C J hs => ml_given 24 hb.1 hs⟩
end P98u
