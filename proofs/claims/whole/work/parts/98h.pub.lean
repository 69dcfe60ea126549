/-! PUBLIC METHODS: race, summer: the starts of the reference -/
section P98h
variable {I C J K : pI} {L : pL} {N S : Nat}

set_option maxHeartbeats 400000 in
theorem dn_rs2 (d : Nat) {K : pI} {c p b W R : Int32} {v2 : Option Value} (hc8 : mm_in c 8 = true) (e42 : K 108 42 = p) (e43 : K 108 43 = b) (e2 : K 108 2 = W) (eR : m_rope (K 108) 0 = R) {Q : Option Value → mm_M → Prop} (hk : gP mm_cs0 (d + 7) 9 false (some .int) cX9_raced 12 [some (.ref 108), some (.int (c + 1)), v2] [] (mm_sh, mm_R, mm_u (k3 K c.toNatClampNeg p b 0) 136 c.toNatClampNeg (if W ≤ p then R else 999), L) Q) : gP mm_cs0 (d + 7) 9 false (some .int) cX9_raced 29 [some (.ref 108), some (.int c), v2] [] (mm_sh, mm_R, K, L) Q := by
  have f43 : mm_u K 133 c.toNatClampNeg p 108 43 = b := by rw [mm_u_o _ _ _ _ (by decide)]; exact e43
  have f108 : k3 K c.toNatClampNeg p b 0 108 = K 108 := k3_o _ _ _ _ _ (by omega)
  have f42 : k3 K c.toNatClampNeg p b 0 108 42 = p := by rw [f108]; exact e42
  have f2 : k3 K c.toNatClampNeg p b 0 108 2 = W := by rw [f108]; exact e2
  refine gp_aload_n dX9_raced_29 rfl ?_
  refine gp_gr dX9_raced_30 mf_9_102 rfl (by first | rfl | assumption | (simp only [*]; done)) (by first | rfl | assumption | (simp only [*]; done)) ?_
  refine gp_iload_n dX9_raced_33 rfl ?_
  refine gp_aload_n dX9_raced_34 rfl ?_
  refine gp_giv dX9_raced_35 mf_9_257 (by decide) (by first | rfl | assumption | (simp only [*]; done)) (by first | exact e42 | exact f43 | exact f42 | exact f2 | exact rfl) ?_
  refine gp_ias dX9_raced_38 rfl hc8 ?_
  refine gp_aload_n dX9_raced_39 rfl ?_
  refine gp_gr dX9_raced_40 mf_9_105 rfl (by first | rfl | assumption | (simp only [*]; done)) (by first | rfl | assumption | (simp only [*]; done)) ?_
  refine gp_iload_n dX9_raced_43 rfl ?_
  refine gp_aload_n dX9_raced_44 rfl ?_
  refine gp_giv dX9_raced_45 mf_9_254 (by decide) (by first | rfl | assumption | (simp only [*]; done)) (by first | exact e42 | exact f43 | exact f42 | exact f2 | exact rfl) ?_
  refine gp_ias dX9_raced_48 rfl hc8 ?_
  refine gp_aload_n dX9_raced_49 rfl ?_
  refine gp_gr dX9_raced_50 mf_9_108 rfl (by first | rfl | assumption | (simp only [*]; done)) (by first | rfl | assumption | (simp only [*]; done)) ?_
  refine gp_iload_n dX9_raced_53 rfl ?_
  refine gp_pu (st' := .int (0) :: _) dX9_raced_54 rfl ?_
  refine gp_ias dX9_raced_55 rfl hc8 ?_
  refine gp_aload_n dX9_raced_56 rfl ?_
  refine gp_gr dX9_raced_57 mf_9_111 rfl (by first | rfl | assumption | (simp only [*]; done)) (by first | rfl | assumption | (simp only [*]; done)) ?_
  refine gp_iload_n dX9_raced_60 rfl ?_
  refine gp_aload_n dX9_raced_61 rfl ?_
  refine gp_giv dX9_raced_62 mf_9_257 (by decide) (by first | rfl | assumption | (simp only [*]; done)) (by first | exact e42 | exact f43 | exact f42 | exact f2 | exact rfl) ?_
  refine gp_aload_n dX9_raced_65 rfl ?_
  refine gp_giv dX9_raced_66 mf_9_7 (by decide) (by first | rfl | assumption | (simp only [*]; done)) (by first | exact e42 | exact f43 | exact f42 | exact f2 | exact rfl) ?_
  refine gp_icc (t := 78) dX9_raced_69 (by decide) c2_ge (fun h1 => ?_) (fun h1 => ?_)
  · have h1' := Int32.not_lt.mpr h1
    refine gp_aload_n dX9_raced_78 rfl ?_
    refine gp_pu (st' := .int (0) :: _) dX9_raced_79 rfl ?_
    refine gp_call (kind := 1) (args := [.ref _, .int _]) (rest := _) dX9_raced_80 (Or.inr (Or.inl ⟨rfl, rfl⟩)) mk_9_287 (by decide) me_178 rfl rfl rfl rfl rfl (mm_rc_of (by first | rfl | assumption | (simp only [*]; done))) (by have zq := ok_X9_withRope (d + 6) (k3 K c.toNatClampNeg p b 0) L 0; rw [f108, eR] at zq; exact zq) rfl ?_
    refine gp_ias dX9_raced_83 rfl hc8 ?_
    refine gp_iinc (v := (1)) (ls' := [some (.ref _), some (.int _), _]) dX9_raced_84 rfl (by decide) rfl ?_
    refine gp_goto (t := 12) dX9_raced_87 (by decide) ?_
    first | (rw [if_pos h1] at hk; exact hk) | (rw [if_neg h1] at hk; exact hk)
  · have h1' := Int32.not_le.mp h1
    refine gp_pu (st' := .int (999) :: _) dX9_raced_72 rfl ?_
    refine gp_goto (t := 83) dX9_raced_75 (by decide) ?_
    refine gp_ias dX9_raced_83 rfl hc8 ?_
    refine gp_iinc (v := (1)) (ls' := [some (.ref _), some (.int _), _]) dX9_raced_84 rfl (by decide) rfl ?_
    refine gp_goto (t := 12) dX9_raced_87 (by decide) ?_
    first | (rw [if_pos h1] at hk; exact hk) | (rw [if_neg h1] at hk; exact hk)
end P98h
