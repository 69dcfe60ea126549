/-! PUBLIC METHODS: race, summer: the seconds of the reference -/
section P98f
variable {I C J K : pI} {L : pL} {N S : Nat}

theorem dn_r216 (d : Nat) {s c : Int32} {Q : Option Value → mm_M → Prop} (hk : gP mm_cs0 (d + 7) 9 false (some .int) cX9_raced 101 [some (.ref 108), some (.int s), some (.int (c + 1))] [] (mm_sh, mm_R, J, L) Q) : gP mm_cs0 (d + 7) 9 false (some .int) cX9_raced 216 [some (.ref 108), some (.int s), some (.int c)] [] (mm_sh, mm_R, J, L) Q := by
  refine gp_iinc (v := (1)) (ls' := [some (.ref _), some (.int _), some (.int _)]) dX9_raced_216 rfl (by decide) rfl ?_
  refine gp_goto (t := 101) dX9_raced_219 (by decide) ?_
  exact hk

set_option maxHeartbeats 400000 in
theorem lp_r101 (d : Nat) (v : vN I N S) {r : Int32} {t : yT} {s : Nat} {Q : Option Value → mm_M → Prop} (hcont : ∀ K, rR I r C N (y_rr I s N t) K → gP mm_cs0 (d + 7) 9 false (some .int) cX9_raced 222 [some (.ref 108), some (.int (nI s)), some (.int (nI N))] [] (mm_sh, mm_R, K, L) Q) : ∀ (n i : Nat) (J : pI), i + n = N → rR I r C N (y_rr I s i t) J → gP mm_cs0 (d + 7) 9 false (some .int) cX9_raced 101 [some (.ref 108), some (.int (nI s)), some (.int (nI i))] [] (mm_sh, mm_R, J, L) Q := by
  intro n
  induction n with
  | zero =>
    intro i J hi hR
    obtain rfl : i = N := by omega
    have hN8 := v.1
    have zq0 : J 108 0 = nI i := by rw [hR.1.r (by omega), uI_j _ _ _ (by decide) (by decide)]; exact v.2.2.1
    have hc1 : nI i ≤ nI i := Int32.le_refl _
    refine gp_iload_n dX9_raced_101 rfl ?_
    refine gp_aload_n dX9_raced_102 rfl ?_
    refine gp_giv dX9_raced_103 mf_9_117 (by decide) (by first | rfl | assumption | (simp only [*]; done)) (by first | exact zq0 | exact rfl) ?_
    refine gp_icc (t := 222) dX9_raced_106 (by decide) c2_ge (fun h1 => ?_) (fun h1 => ?_)
    · have h1' := Int32.not_lt.mpr h1
      exact hcont _ hR
    · exact absurd hc1 h1
  | succ n ih =>
    intro i J hi hR
    have hN8 := v.1
    have zq0 : J 108 0 = nI N := by rw [hR.1.r (by omega), uI_j _ _ _ (by decide) (by decide)]; exact v.2.2.1
    have zq2 : J 108 2 = I 108 2 := by rw [hR.1.r (by omega), uI_j _ _ _ (by decide) (by decide)]
    have hc1 : ¬ nI N ≤ nI i := nI_ge (by omega) (by omega)
    have zqi : mm_in (nI i) 8 = true := v.in8 (ch_n v (show i < N by omega))
    have zqp : J 133 (nI i).toNatClampNeg = ((y_rr I s i t).1 i).1 := by rw [nI_clamp (by omega)]; exact (hR.2 i (by omega)).1
    refine gp_iload_n dX9_raced_101 rfl ?_
    refine gp_aload_n dX9_raced_102 rfl ?_
    refine gp_giv dX9_raced_103 mf_9_117 (by decide) (by first | rfl | assumption | (simp only [*]; done)) (by first | exact zq0 | exact zq2 | exact rfl) ?_
    refine gp_icc (t := 222) dX9_raced_106 (by decide) c2_ge (fun h1 => ?_) (fun h1 => ?_)
    · exact absurd h1 hc1
    · have h1' := Int32.not_le.mp h1
      refine gp_aload_n dX9_raced_109 rfl ?_
      refine gp_gr dX9_raced_110 mf_9_102 rfl (by first | rfl | assumption | (simp only [*]; done)) (by first | rfl | assumption | (simp only [*]; done)) ?_
      refine gp_iload_n dX9_raced_113 rfl ?_
      refine gp_ialv dX9_raced_114 rfl (by first | rfl | assumption | (simp only [*]; done)) zqi zqp ?_
      refine gp_aload_n dX9_raced_115 rfl ?_
      refine gp_giv dX9_raced_116 mf_9_7 (by decide) (by first | rfl | assumption | (simp only [*]; done)) (by first | exact zq0 | exact zq2 | exact rfl) ?_
      refine gp_icc (t := 125) dX9_raced_119 (by decide) c2_lt (fun h2 => ?_) (fun h2 => ?_)
      · have h2' := Int32.not_le.mpr h2
        (refine dn_rc d v hR (show i < N by omega) (Int32.not_le.mpr h2) (fun K hK => ?_)
         refine dn_r216 d ?_
         rw [nI_1]
         exact ih (i + 1) K (by omega) hK)
      · have h2' := Int32.not_lt.mp h2
        refine gp_goto (t := 216) dX9_raced_122 (by decide) ?_
        refine gp_iinc (v := (1)) (ls' := [some (.ref _), some (.int _), some (.int _)]) dX9_raced_216 rfl (by decide) rfl ?_
        refine gp_goto (t := 101) dX9_raced_219 (by decide) ?_
        (rw [nI_1]
         refine ih (i + 1) J (by omega) ?_
         rw [show y_rr I s (i + 1) t = y_rr I s i t from if_pos (Int32.not_lt.mp h2)]
         exact hR)

theorem dn_r222 (d : Nat) {s c : Int32} {Q : Option Value → mm_M → Prop} (hk : gP mm_cs0 (d + 7) 9 false (some .int) cX9_raced 92 [some (.ref 108), some (.int (s + 1)), some (.int c)] [] (mm_sh, mm_R, J, L) Q) : gP mm_cs0 (d + 7) 9 false (some .int) cX9_raced 222 [some (.ref 108), some (.int s), some (.int c)] [] (mm_sh, mm_R, J, L) Q := by
  refine gp_iinc (v := (1)) (ls' := [some (.ref _), some (.int _), some (.int _)]) dX9_raced_222 rfl (by decide) rfl ?_
  refine gp_goto (t := 92) dX9_raced_225 (by decide) ?_
  exact hk

set_option maxHeartbeats 400000 in
theorem lp_r92 (d : Nat) (v : vN I N S) {r : Int32} {Q : Option Value → mm_M → Prop} : ∀ (n i : Nat) (t : yT) (v2 : Option Value) (J : pI), i + n = 1000 → (∀ w2 K, rR I r C N (y_ra I N n i t) K → gP mm_cs0 (d + 7) 9 false (some .int) cX9_raced 228 [some (.ref 108), some (.int (nI 1000)), w2] [] (mm_sh, mm_R, K, L) Q) → rR I r C N t J → gP mm_cs0 (d + 7) 9 false (some .int) cX9_raced 92 [some (.ref 108), some (.int (nI i)), v2] [] (mm_sh, mm_R, J, L) Q := by
  intro n
  induction n with
  | zero =>
    intro i t v2 J hi hcont hR
    obtain rfl : i = 1000 := by omega
    have hc1 : (999 : Int32) < nI 1000 := by decide
    refine gp_iload_n dX9_raced_92 rfl ?_
    refine gp_pu (st' := .int (999) :: _) dX9_raced_93 rfl ?_
    refine gp_icc (t := 228) dX9_raced_96 (by decide) c2_gt (fun h1 => ?_) (fun h1 => ?_)
    · have h1' := Int32.not_le.mpr h1
      exact hcont _ _ hR
    · exact absurd hc1 h1
  | succ n ih =>
    intro i t v2 J hi hcont hR
    have hc1 : ¬ (999 : Int32) < nI i := by
      rw [ti_lt, ti_999, ti_nI (by omega)]; omega
    refine gp_iload_n dX9_raced_92 rfl ?_
    refine gp_pu (st' := .int (999) :: _) dX9_raced_93 rfl ?_
    refine gp_icc (t := 228) dX9_raced_96 (by decide) c2_gt (fun h1 => ?_) (fun h1 => ?_)
    · exact absurd h1 hc1
    · have h1' := Int32.not_lt.mp h1
      refine gp_pu (st' := .int (0) :: _) dX9_raced_99 rfl ?_
      refine gp_istore_n (ls' := [some (.ref _), some (.int _), some (.int _)]) dX9_raced_100 rfl (Nat.le_of_ble_eq_true rfl) ?_
      (refine lp_r101 d v (fun K hK => ?_) N 0 J (Nat.zero_add _) hR
       refine dn_r222 d ?_
       rw [nI_1]
       exact ih (i + 1) _ _ K (by omega) hcont hK)
end P98f
