/-! LAYER B: the reference's puts, putsIn, in, twoIn -/
section MTW
variable {I C J : pI} {N S : Nat}
/-- who hops, as the reference's cells tell it -/
def hop (I K : pI) (κ a l k ah rl mo : Int32) : Prop := K 108 35 = κ ∧ K 108 36 = a ∧ K 108 37 = l ∧ K 108 40 = ah ∧ K 108 41 = rl ∧ K 108 38 = q_sl I k l mo ∧ K 108 39 = q_ho I k
theorem mt_puts (d : Nat) (L : pL) (v : vN I N S) (hs : mR I C J) {c : Int32} (hc : 0 ≤ c ∧ c < nI N) : cP (d + 3) 166 [.ref 108, .int c] (mm_sh, mm_R, J, L) (pX none L (fun K => mR I C K ∧ hop I K (I 110 c.toNatClampNeg) (I 111 c.toNatClampNeg) (I 112 c.toNatClampNeg) (I 113 c.toNatClampNeg) (I 114 c.toNatClampNeg) (I 108 6) 0 ∧ ∀ j, j < 35 ∨ 41 < j → K 108 j = J 108 j)) := by
  obtain ⟨a1, a2, a3, a4, a5, a6, a7, a8, a9⟩ := puts_q hs c
  refine cP.of_x (ok_X9_puts d J L c (v.in8 hc) (v.sin hs hc)) rfl ⟨hs.row fun j hj => a9 j (by omega), ?_, fun j hj => by rw [sr_same]; exact a9 j hj⟩
  unfold hop
  rw [sr_same]
  exact ⟨a2, a3, a4, a5, a6, a7, a8⟩
theorem mt_putsIn (d : Nat) (L : pL) (hs : mR I C J) {k : Int32} (hk : I 108 1 = 0 ∨ mm_in k 8 = true) : cP (d + 2) 167 [.ref 108, .int k] (mm_sh, mm_R, J, L) (pX none L (fun K => mR I C K ∧ K 108 38 = q_sl I k (J 108 37) 0 ∧ K 108 39 = q_ho I k ∧ ∀ j, j ≠ 38 → j ≠ 39 → K 108 j = J 108 j)) := by
  obtain ⟨b1, b2, b3, b4⟩ := putsIn_q hs (μ := J 108) (fun j hj => hs.r (by omega)) k
  refine cP.of_x (ok_X9_putsIn d J L k (by rw [hs.r (by omega)]; exact hk)) rfl ⟨hs.row fun j hj => b2 j (by omega) (by omega), ?_, ?_, fun j h1 h2 => ?_⟩
  · rw [sr_same]; exact b3
  · rw [sr_same]; exact b4
  · rw [sr_same]; exact b2 j h1 h2
theorem mt_in (d : Nat) (L : pL) (hs : mR I C J) {κ a l k ah rl mo : Int32} (hk : isKd κ) (h : hop I J κ a l k ah rl mo) : cP (d + 6) 179 [.ref 108] (mm_sh, mm_R, J, L) (pX (some (.int (tq I κ a l k ah rl mo))) L (mR I C)) := by
  obtain ⟨h1, h2, h3, h4, h5, h6, h7⟩ := h
  refine cP.of_x (ok_X9_in d J L (by rw [h1]; exact hk)) ?_ (hs.inM fun _ _ => rfl)
  rw [m_in_q (fun j hj => hs.r (by omega)) (by rw [h3]; exact h6) h7, h1, h2, h3, h4, h5]
theorem q_sl_mo (I : pI) (k l mo : Int32) : q_sl I k l 0 + mo = q_sl I k l mo := by unfold q_sl; rw [Int32.add_zero]
theorem mm_u_s (I : pI) (k j : Nat) (v : Int32) : mm_u I k j v k j = v := by simp [mm_u]
theorem mm_u_j (I : pI) {k j b : Nat} (v : Int32) (h : b ≠ j) : mm_u I k j v k b = I k b := by simp [mm_u, h]

theorem hop_two {K1 K2 : pI} {κ a l l2 k k0 ah rl m lm : Int32} (h : hop I K1 κ a l k0 ah rl 0) (q : K2 108 38 = q_sl I k (mm_u K1 108 37 l2 108 37) 0 ∧ K2 108 39 = q_ho I k ∧ ∀ j, j ≠ 38 → j ≠ 39 → K2 108 j = mm_u K1 108 37 l2 108 j) (hl : lm = l2) : hop I (mm_u K2 108 38 (K2 108 38 + m)) κ a lm k ah rl m := by
  subst hl
  obtain ⟨p1, p2, p3, p4, p5, p6, p7⟩ := h
  obtain ⟨q1, q2, q3⟩ := q
  unfold hop
  rw [mm_u_s] at q1
  rw [mm_u_j _ _ (by decide), mm_u_j _ _ (by decide), mm_u_j _ _ (by decide), mm_u_j _ _ (by decide), mm_u_j _ _ (by decide), mm_u_s, mm_u_j _ _ (by decide), q1, q2, q3 35 (by decide) (by decide), q3 36 (by decide) (by decide), q3 37 (by decide) (by decide), q3 40 (by decide) (by decide), q3 41 (by decide) (by decide), mm_u_j _ _ (by decide), mm_u_j _ _ (by decide), mm_u_s, mm_u_j _ _ (by decide), mm_u_j _ _ (by decide), q_sl_mo]
  exact ⟨p1, p2, rfl, p4, p5, rfl, rfl⟩

set_option maxHeartbeats 1000000 in
theorem mt_twoIn (d : Nat) (L : pL) (v : vN I N S) (hs : mR I C J) {c e k : Int32} (hc : 0 ≤ c ∧ c < nI N) (he : 0 ≤ e ∧ e < nI N) (hk : 0 ≤ k ∧ k < nI S) : cP (d + 8) 194 [.ref 108, .int c, .int e, .int k] (mm_sh, mm_R, J, L) (pX (some (.int (tq I (I 110 c.toNatClampNeg) (I 111 c.toNatClampNeg) (i_min (I 112 c.toNatClampNeg) (I 112 e.toNatClampNeg)) k (I 114 c.toNatClampNeg) (I 108 6) (i_ab (I 112 c.toNatClampNeg - I 112 e.toNatClampNeg))))) L (mR I C)) := by
  have hc8 := v.in8 hc
  have he8 := v.in8 he
  have hk8 := v.sk8 hk
  refine cP.of_gP (d := d + 7) me_194 ⟨Nat.le_of_ble_eq_true rfl, rfl⟩ ?_
  show gP mm_cs0 _ _ _ _ _ _ [some (.ref _), some (.int _), some (.int _), some (.int _)] [] _ _
  refine gp_aload_n dX9_twoIn_0 rfl ?_
  refine gp_iload_n dX9_twoIn_1 rfl ?_
  refine gp_callX (kind := 1) (args := [.ref _, .int _]) (rest := _) dX9_twoIn_2 (Or.inr (Or.inl ⟨rfl, rfl⟩)) mk_9_134 (by decide) me_166 rfl rfl rfl rfl rfl (mm_rc_of (by first | rfl | assumption | (simp only [*]; done))) (mt_puts _ _ v hs hc) ?_
  intro K1 hK1
  refine gp_aload_n dX9_twoIn_5 rfl ?_
  refine gp_aload_n dX9_twoIn_6 rfl ?_
  refine gp_gr dX9_twoIn_7 mf_9_38 rfl (by first | rfl | assumption | (simp only [*]; done)) (by first | rfl | assumption | (simp only [*]; done)) ?_
  refine gp_iload_n dX9_twoIn_10 rfl ?_
  refine gp_ialv dX9_twoIn_11 rfl (by first | rfl | assumption | (simp only [*]; done)) (by first | rfl | assumption | (simp only [*]; done)) (by first | exact hK1.1.1 _ _ rfl | exact rfl) ?_
  refine gp_aload_n dX9_twoIn_12 rfl ?_
  refine gp_gr dX9_twoIn_13 mf_9_38 rfl (by first | rfl | assumption | (simp only [*]; done)) (by first | rfl | assumption | (simp only [*]; done)) ?_
  refine gp_iload_n dX9_twoIn_16 rfl ?_
  refine gp_ialv dX9_twoIn_17 rfl (by first | rfl | assumption | (simp only [*]; done)) (by first | rfl | assumption | (simp only [*]; done)) (by first | exact hK1.1.1 _ _ rfl | exact rfl) ?_
  refine gp_icc (t := 30) dX9_twoIn_18 (by decide) c2_ge (fun h1 => ?_) (fun h1 => ?_)
  · have h1' := Int32.not_lt.mpr h1
    refine gp_aload_n dX9_twoIn_30 rfl ?_
    refine gp_gr dX9_twoIn_31 mf_9_38 rfl (by first | rfl | assumption | (simp only [*]; done)) (by first | rfl | assumption | (simp only [*]; done)) ?_
    refine gp_iload_n dX9_twoIn_34 rfl ?_
    refine gp_ialv dX9_twoIn_35 rfl (by first | rfl | assumption | (simp only [*]; done)) (by first | rfl | assumption | (simp only [*]; done)) (by first | exact hK1.1.1 _ _ rfl | exact rfl) ?_
    refine gp_pi dX9_twoIn_36 mf_9_230 rfl rfl (by first | rfl | assumption | (simp only [*]; done)) ?_
    refine gp_aload_n dX9_twoIn_39 rfl ?_
    refine gp_iload_n dX9_twoIn_40 rfl ?_
    refine gp_callX (kind := 1) (args := [.ref _, .int _]) (rest := _) dX9_twoIn_41 (Or.inr (Or.inl ⟨rfl, rfl⟩)) mk_9_239 (by decide) me_167 rfl rfl rfl rfl rfl (mm_rc_of (by first | rfl | assumption | (simp only [*]; done))) (mt_putsIn (k := k) _ _ (hK1.1.u (by decide) rfl) (Or.inr hk8)) ?_
    intro K2 hK2
    refine gp_aload_n dX9_twoIn_44 rfl ?_
    refine gp_pu dX9_twoIn_45 rfl ?_
    refine gp_giv dX9_twoIn_46 mf_9_245 (by decide) (by first | rfl | assumption | (simp only [*]; done)) (by first | exact hK2.1.1 _ _ rfl | exact hK1.1.1 _ _ rfl | exact rfl) ?_
    refine gp_aload_n dX9_twoIn_49 rfl ?_
    refine gp_aload_n dX9_twoIn_50 rfl ?_
    refine gp_gr dX9_twoIn_51 mf_9_38 rfl (by first | rfl | assumption | (simp only [*]; done)) (by first | rfl | assumption | (simp only [*]; done)) ?_
    refine gp_iload_n dX9_twoIn_54 rfl ?_
    refine gp_ialv dX9_twoIn_55 rfl (by first | rfl | assumption | (simp only [*]; done)) (by first | rfl | assumption | (simp only [*]; done)) (by first | exact hK2.1.1 _ _ rfl | exact hK1.1.1 _ _ rfl | exact rfl) ?_
    refine gp_aload_n dX9_twoIn_56 rfl ?_
    refine gp_gr dX9_twoIn_57 mf_9_38 rfl (by first | rfl | assumption | (simp only [*]; done)) (by first | rfl | assumption | (simp only [*]; done)) ?_
    refine gp_iload_n dX9_twoIn_60 rfl ?_
    refine gp_ialv dX9_twoIn_61 rfl (by first | rfl | assumption | (simp only [*]; done)) (by first | rfl | assumption | (simp only [*]; done)) (by first | exact hK2.1.1 _ _ rfl | exact hK1.1.1 _ _ rfl | exact rfl) ?_
    refine gp_pu (st' := .int _ :: _) dX9_twoIn_62 rfl ?_
    refine gp_call (kind := 1) (args := [.ref _, .int _]) (rest := _) dX9_twoIn_63 (Or.inr (Or.inl ⟨rfl, rfl⟩)) mk_9_242 (by decide) me_132 rfl rfl rfl rfl rfl (mm_rc_of (by first | rfl | assumption | (simp only [*]; done))) (ok_X9_abs _ _ _ _) rfl ?_
    refine gp_pu (st' := .int _ :: _) dX9_twoIn_66 rfl ?_
    refine gp_pi dX9_twoIn_67 mf_9_245 rfl rfl (by first | rfl | assumption | (simp only [*]; done)) ?_
    refine gp_aload_n dX9_twoIn_70 rfl ?_
    refine gp_callX (kind := 1) (args := [.ref _]) (rest := _) dX9_twoIn_71 (Or.inr (Or.inl ⟨rfl, rfl⟩)) mk_9_290 (by decide) me_179 rfl rfl rfl rfl rfl (mm_rc_of (by first | rfl | assumption | (simp only [*]; done))) (mt_in _ _ (hK2.1.u (by decide) rfl) (isKd_wi (v.k (v.cl hc).2.1).1) (hop_two (lm := i_min (I 112 c.toNatClampNeg) (I 112 e.toNatClampNeg)) hK1.2.1 hK2.2 (if_neg (Int32.not_lt.mpr h1)))) ?_
    intro K3 hK3
    refine gp_iret dX9_twoIn_74 rfl ?_
    exact pX.mk rfl hK3
  · have h1' := Int32.not_le.mp h1
    refine gp_aload_n dX9_twoIn_21 rfl ?_
    refine gp_gr dX9_twoIn_22 mf_9_38 rfl (by first | rfl | assumption | (simp only [*]; done)) (by first | rfl | assumption | (simp only [*]; done)) ?_
    refine gp_iload_n dX9_twoIn_25 rfl ?_
    refine gp_ialv dX9_twoIn_26 rfl (by first | rfl | assumption | (simp only [*]; done)) (by first | rfl | assumption | (simp only [*]; done)) (by first | exact hK1.1.1 _ _ rfl | exact rfl) ?_
    refine gp_goto (t := 36) dX9_twoIn_27 (by decide) ?_
    refine gp_pi dX9_twoIn_36 mf_9_230 rfl rfl (by first | rfl | assumption | (simp only [*]; done)) ?_
    refine gp_aload_n dX9_twoIn_39 rfl ?_
    refine gp_iload_n dX9_twoIn_40 rfl ?_
    refine gp_callX (kind := 1) (args := [.ref _, .int _]) (rest := _) dX9_twoIn_41 (Or.inr (Or.inl ⟨rfl, rfl⟩)) mk_9_239 (by decide) me_167 rfl rfl rfl rfl rfl (mm_rc_of (by first | rfl | assumption | (simp only [*]; done))) (mt_putsIn (k := k) _ _ (hK1.1.u (by decide) rfl) (Or.inr hk8)) ?_
    intro K2 hK2
    refine gp_aload_n dX9_twoIn_44 rfl ?_
    refine gp_pu dX9_twoIn_45 rfl ?_
    refine gp_giv dX9_twoIn_46 mf_9_245 (by decide) (by first | rfl | assumption | (simp only [*]; done)) (by first | exact hK2.1.1 _ _ rfl | exact hK1.1.1 _ _ rfl | exact rfl) ?_
    refine gp_aload_n dX9_twoIn_49 rfl ?_
    refine gp_aload_n dX9_twoIn_50 rfl ?_
    refine gp_gr dX9_twoIn_51 mf_9_38 rfl (by first | rfl | assumption | (simp only [*]; done)) (by first | rfl | assumption | (simp only [*]; done)) ?_
    refine gp_iload_n dX9_twoIn_54 rfl ?_
    refine gp_ialv dX9_twoIn_55 rfl (by first | rfl | assumption | (simp only [*]; done)) (by first | rfl | assumption | (simp only [*]; done)) (by first | exact hK2.1.1 _ _ rfl | exact hK1.1.1 _ _ rfl | exact rfl) ?_
    refine gp_aload_n dX9_twoIn_56 rfl ?_
    refine gp_gr dX9_twoIn_57 mf_9_38 rfl (by first | rfl | assumption | (simp only [*]; done)) (by first | rfl | assumption | (simp only [*]; done)) ?_
    refine gp_iload_n dX9_twoIn_60 rfl ?_
    refine gp_ialv dX9_twoIn_61 rfl (by first | rfl | assumption | (simp only [*]; done)) (by first | rfl | assumption | (simp only [*]; done)) (by first | exact hK2.1.1 _ _ rfl | exact hK1.1.1 _ _ rfl | exact rfl) ?_
    refine gp_pu (st' := .int _ :: _) dX9_twoIn_62 rfl ?_
    refine gp_call (kind := 1) (args := [.ref _, .int _]) (rest := _) dX9_twoIn_63 (Or.inr (Or.inl ⟨rfl, rfl⟩)) mk_9_242 (by decide) me_132 rfl rfl rfl rfl rfl (mm_rc_of (by first | rfl | assumption | (simp only [*]; done))) (ok_X9_abs _ _ _ _) rfl ?_
    refine gp_pu (st' := .int _ :: _) dX9_twoIn_66 rfl ?_
    refine gp_pi dX9_twoIn_67 mf_9_245 rfl rfl (by first | rfl | assumption | (simp only [*]; done)) ?_
    refine gp_aload_n dX9_twoIn_70 rfl ?_
    refine gp_callX (kind := 1) (args := [.ref _]) (rest := _) dX9_twoIn_71 (Or.inr (Or.inl ⟨rfl, rfl⟩)) mk_9_290 (by decide) me_179 rfl rfl rfl rfl rfl (mm_rc_of (by first | rfl | assumption | (simp only [*]; done))) (mt_in _ _ (hK2.1.u (by decide) rfl) (isKd_wi (v.k (v.cl hc).2.1).1) (hop_two (lm := i_min (I 112 c.toNatClampNeg) (I 112 e.toNatClampNeg)) hK1.2.1 hK2.2 (if_pos (Int32.not_le.mp h1)))) ?_
    intro K3 hK3
    refine gp_iret dX9_twoIn_74 rfl ?_
    exact pX.mk rfl hK3
end MTW
