/-! PUBLIC METHODS: race, summer: the reference -/
section P98a
variable {I C J : pI} {L : pL} {N S : Nat}

set_option maxHeartbeats 400000 in
theorem md_draw (d : Nat) : cP (d + 1) 206 [.ref 108, .int 100] (mm_sh, mm_R, J, L) (pX (some (.int (i_draw (i_next (J 108 8)) 100))) L (fun K => K = mm_u J 108 8 (i_next (J 108 8)))) := by
  refine cP.of_gP (d := d + 0) me_206 ⟨Nat.le_of_ble_eq_true rfl, rfl⟩ ?_
  show gP mm_cs0 _ _ _ _ _ _ [some (.ref _), some (.int _)] [] _ _
  refine gp_aload_n dX9_draw_0 rfl ?_
  refine gp_aload_n dX9_draw_1 rfl ?_
  refine gp_giv dX9_draw_2 mf_9_22 (by decide) (by first | rfl | assumption | (simp only [*]; done)) (by first | exact rfl) ?_
  refine gp_ldcw dX9_draw_5 rfl ?_
  refine gp_pu (st' := .int _ :: _) dX9_draw_8 rfl ?_
  refine gp_pu (st' := .int (12345) :: _) dX9_draw_9 rfl ?_
  refine gp_pu (st' := .int _ :: _) dX9_draw_12 rfl ?_
  refine gp_pi dX9_draw_13 mf_9_22 rfl rfl (by first | rfl | assumption | (simp only [*]; done)) ?_
  refine gp_aload_n dX9_draw_16 rfl ?_
  refine gp_giv dX9_draw_17 mf_9_22 (by decide) (by first | rfl | assumption | (simp only [*]; done)) (by first | exact rfl) ?_
  refine gp_pu (st' := .int (16) :: _) dX9_draw_20 rfl ?_
  refine gp_pu (st' := .int _ :: _) dX9_draw_22 rfl ?_
  refine gp_iload_n dX9_draw_23 rfl ?_
  refine gp_pu (st' := .int _ :: _) dX9_draw_24 (by unfold mm_pu mm_2i; dsimp only; rw [if_neg (by decide)]) ?_
  refine gp_iret dX9_draw_25 rfl ?_
  (refine pX.mk ?zqa ?zqb; (case zqa => (first | with_reducible rfl | (simp [mm_u, i_draw, i_up, i_next]; done))); (case zqb => (first | with_reducible rfl | (simp [i_next]; done))))

theorem me_draw (d : Nat) {sn x : Int32} (hsn : i_next (J 108 8) = sn) (hx : i_draw sn 100 = x) : cP (d + 1) 206 [.ref 108, .int 100] (mm_sh, mm_R, J, L) (pX (some (.int x)) L (fun K => K = mm_u J 108 8 sn)) := by
  have := md_draw d (J := J) (L := L)
  rw [hsn, hx] at this
  exact this
end P98a
