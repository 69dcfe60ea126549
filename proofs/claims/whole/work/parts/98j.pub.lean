/-! PUBLIC METHODS: race, summer: the race of the reference -/
section P98j
variable {I C J K : pI} {L : pL} {N S : Nat}

/-- what a race won by w leaves of the reference's memory -/
def uX (I : pI) (r sd w : Int32) : pI := if w = -1 then uI I r sd else mm_u (uI I r sd) 115 w.toNatClampNeg (I 115 w.toNatClampNeg + 1)
theorem uI_id (I : pI) (r : Int32) : uI I r (I 108 8) = mm_u I 108 7 r := by
  funext a b
  unfold uI
  rw [mm_u_i]
  by_cases z : a = 108 ∧ b = 8
  · rw [if_pos z, z.1, z.2, mm_u_j _ _ (by decide)]
  · rw [if_neg z]

theorem dn_r228 (d : Nat) {s : Int32} {v2 : Option Value} {Q : Option Value → mm_M → Prop} (hk : gP mm_cs0 (d + 7) 9 false (some .int) cX9_raced 232 [some (.ref 108), some (.int (-1)), some (.int 0)] [] (mm_sh, mm_R, J, L) Q) : gP mm_cs0 (d + 7) 9 false (some .int) cX9_raced 228 [some (.ref 108), some (.int s), v2] [] (mm_sh, mm_R, J, L) Q := by
  refine gp_pu (st' := .int (-1) :: _) dX9_raced_228 rfl ?_
  refine gp_istore_n (ls' := [some (.ref _), some (.int _), _]) dX9_raced_229 rfl (Nat.le_of_ble_eq_true rfl) ?_
  refine gp_pu (st' := .int (0) :: _) dX9_raced_230 rfl ?_
  refine gp_istore_n (ls' := [some (.ref _), some (.int _), some (.int _)]) dX9_raced_231 rfl (Nat.le_of_ble_eq_true rfl) ?_
  exact hk

theorem dn_r280 (d : Nat) {r w c : Int32} {t : yT} (hR : rR I r C N t J) (zi : ¬ w = -1 → mm_in w 8 = true) : gP mm_cs0 (d + 7) 9 false (some .int) cX9_raced 280 [some (.ref 108), some (.int w), some (.int c)] [] (mm_sh, mm_R, J, L) (pX (some (.int w)) L (mR (uX I r t.2.2 w) C)) := by
  have zv : J 115 w.toNatClampNeg = I 115 w.toNatClampNeg := by rw [hR.1.g (by omega) (by omega) (by omega), uI_k _ _ _ (by decide)]
  refine gp_iload_n dX9_raced_280 rfl ?_
  refine gp_pu (st' := .int (-1) :: _) dX9_raced_281 rfl ?_
  refine gp_icc (t := 295) dX9_raced_282 (by decide) c2_eq (fun h1 => ?_) (fun h1 => ?_)
  · refine gp_iload_n dX9_raced_295 rfl ?_
    refine gp_iret dX9_raced_296 rfl ?_
    first | exact pX.mk rfl (by rw [uX, if_pos h1]; exact hR.1) | exact pX.mk rfl (by rw [uX, if_neg h1]; exact hR.1.uu (by decide))
  · refine gp_aload_n dX9_raced_285 rfl ?_
    refine gp_gr dX9_raced_286 mf_9_47 rfl (by first | rfl | assumption | (simp only [*]; done)) (by first | rfl | assumption | (simp only [*]; done)) ?_
    refine gp_iload_n dX9_raced_289 rfl ?_
    refine gp_pu dX9_raced_290 rfl ?_
    refine gp_ialv dX9_raced_291 rfl (by first | rfl | assumption | (simp only [*]; done)) (zi h1) zv ?_
    refine gp_pu (st' := .int (1) :: _) dX9_raced_292 rfl ?_
    refine gp_pu (st' := .int _ :: _) dX9_raced_293 rfl ?_
    refine gp_ias dX9_raced_294 rfl (zi h1) ?_
    refine gp_iload_n dX9_raced_295 rfl ?_
    refine gp_iret dX9_raced_296 rfl ?_
    first | exact pX.mk rfl (by rw [uX, if_pos h1]; exact hR.1) | exact pX.mk rfl (by rw [uX, if_neg h1]; exact hR.1.uu (by decide))

set_option maxHeartbeats 400000 in
theorem md_raced (d : Nat) (v : vN I N S) (hs : mR I C J) : cP (d + 8) 208 [.ref 108] (mm_sh, mm_R, J, L) (pX (some (.int (y_rw I N (I 108 8)))) L (mR (uX I (I 108 7 + 1) (y_rz I N (I 108 8)).2.2 (y_rw I N (I 108 8))) C)) := by
  have hN8 := v.1
  unfold y_rw
  generalize ht : y_rz I N (I 108 8) = t
  unfold y_rz at ht
  refine cP.of_gP (d := d + 7) me_208 ⟨Nat.le_of_ble_eq_true rfl, rfl⟩ ?_
  show gP mm_cs0 _ _ _ _ _ _ [some (.ref _), none, none] [] _ _
  refine gp_aload_n dX9_raced_0 rfl ?_
  refine gp_pu dX9_raced_1 rfl ?_
  refine gp_giv dX9_raced_2 mf_9_211 (by decide) (by first | rfl | assumption | (simp only [*]; done)) (by first | exact (hs.r (by decide)) | exact rfl) ?_
  refine gp_pu (st' := .int (1) :: _) dX9_raced_5 rfl ?_
  refine gp_pu (st' := .int _ :: _) dX9_raced_6 rfl ?_
  refine gp_pi dX9_raced_7 mf_9_211 rfl rfl (by first | rfl | assumption | (simp only [*]; done)) ?_
  refine gp_pu (st' := .int (0) :: _) dX9_raced_10 rfl ?_
  refine gp_istore_n (ls' := [some (.ref _), some (.int _), none]) dX9_raced_11 rfl (Nat.le_of_ble_eq_true rfl) ?_
  (refine lp_r12 d v (r := I 108 7 + 1) (sd := I 108 8) N 0 none _ (Nat.zero_add _) (fun w2 K hK => ?_) ⟨by (show mR (uI I (I 108 7 + 1) (I 108 8)) C _); rw [uI_id]; exact hs.uu (by decide), fun c hc => absurd hc (Nat.not_lt_zero c)⟩
   refine lp_r92 d v 999 1 (y_s0 I, y_i0 I, I 108 8) w2 K rfl (fun w3 K2 hK2 => ?_) hK
   rw [ht] at hK2
   refine dn_r228 d ?_
   refine lp_r232 d v hK2 ?_ N 0 (Nat.zero_add _)
   refine dn_r280 d hK2 (fun q => ?_)
   obtain ⟨f, f1, f2, f3⟩ := (x_lst_inv t.2.1 N (by omega)).2.2 q
   rw [f2]
   exact v.in8 (ch_n v f1))
end P98j
