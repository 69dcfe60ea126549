/-! PUBLIC METHODS: race, summer: one racer of the reference, a second -/
section P98e
variable {I C J K : pI} {L : pL} {N S : Nat}

theorem y_t_s (t : yT) : (y_s : Int32) → ((t.1, t.2.1, y_s) : yT).2.2 = y_s := fun _ => rfl
/-- the racer's new place, breath and down in the arrays -/
theorem rR_k3 {r : Int32} {t : yT} (hR : rR I r C N t J) {c : Nat} {q : rS} {sd : Int32} (h1 : mR (uI I r sd) C K) (h2 : ∀ k, k ≠ 108 → K k = J k) : rR I r C N (yu t.1 c q, t.2.1, sd) (k3 K c q.1 q.2.1 q.2.2) := by
  refine ⟨((h1.u (by decide) rfl).u (by decide) rfl).u (by decide) rfl, fun e he => ?_⟩
  obtain ⟨b1, b2, b3, b4⟩ := hR.2 e he
  have k133 : ∀ j, k3 K c q.1 q.2.1 q.2.2 133 j = if j = c then q.1 else J 133 j := fun j => by
    unfold k3
    rw [mm_u_o _ _ _ _ (by decide), mm_u_o _ _ _ _ (by decide), mm_u_i, h2 133 (by decide)]
    by_cases y : j = c
    · rw [if_pos ⟨rfl, y⟩, if_pos y]
    · rw [if_neg (fun z => y z.2), if_neg y]
  have k134 : ∀ j, k3 K c q.1 q.2.1 q.2.2 134 j = if j = c then q.2.1 else J 134 j := fun j => by
    unfold k3
    rw [mm_u_o _ _ _ _ (by decide), mm_u_i, mm_u_o _ _ _ _ (by decide), h2 134 (by decide)]
    by_cases y : j = c
    · rw [if_pos ⟨rfl, y⟩, if_pos y]
    · rw [if_neg (fun z => y z.2), if_neg y]
  have k135 : ∀ j, k3 K c q.1 q.2.1 q.2.2 135 j = if j = c then q.2.2 else J 135 j := fun j => by
    unfold k3
    rw [mm_u_i, mm_u_o _ _ _ _ (by decide), mm_u_o _ _ _ _ (by decide), h2 135 (by decide)]
    by_cases y : j = c
    · rw [if_pos ⟨rfl, y⟩, if_pos y]
    · rw [if_neg (fun z => y z.2), if_neg y]
  rw [k133 e, k134 e, k135 e, k3_o _ _ _ _ _ (by omega), h2 136 (by decide)]
  show (if e = c then q.1 else J 133 e) = (yu t.1 c q e).1 ∧ (if e = c then q.2.1 else J 134 e) = (yu t.1 c q e).2.1 ∧ (if e = c then q.2.2 else J 135 e) = (yu t.1 c q e).2.2 ∧ J 136 e = t.2.1 e
  by_cases y : e = c
  · rw [if_pos y, if_pos y, if_pos y, y, yu_s]; rw [y] at b4; exact ⟨rfl, rfl, rfl, b4⟩
  · rw [if_neg y, if_neg y, if_neg y, yu_o _ _ y]; exact ⟨b1, b2, b3, b4⟩
theorem rR_136 {r : Int32} {t : yT} (hR : rR I r C N t J) {c : Nat} {x : Int32} : rR I r C N (t.1, yu t.2.1 c x, t.2.2) (mm_u J 136 c x) := by
  refine ⟨hR.1.u (by decide) rfl, fun e he => ?_⟩
  obtain ⟨b1, b2, b3, b4⟩ := hR.2 e he
  rw [mm_u_k _ _ _ (by decide), mm_u_k _ _ _ (by decide), mm_u_k _ _ _ (by decide), mm_u_i]
  refine ⟨b1, b2, b3, ?_⟩
  show _ = yu t.2.1 c x e
  by_cases y : e = c
  · rw [if_pos ⟨rfl, y⟩, y, yu_s]
  · rw [if_neg (fun z => y z.2), yu_o _ _ y]; exact b4

set_option maxHeartbeats 400000 in
theorem dn_rc (d : Nat) (v : vN I N S) {r : Int32} {t : yT} (hR : rR I r C N t J) {s c : Nat} (hc : c < N) (hw : ¬ I 108 2 ≤ (t.1 c).1) {Q : Option Value → mm_M → Prop} (hk : ∀ K, rR I r C N (y_r1 I s c t) K → gP mm_cs0 (d + 7) 9 false (some .int) cX9_raced 216 [some (.ref 108), some (.int (nI s)), some (.int (nI c))] [] (mm_sh, mm_R, K, L) Q) : gP mm_cs0 (d + 7) 9 false (some .int) cX9_raced 125 [some (.ref 108), some (.int (nI s)), some (.int (nI c))] [] (mm_sh, mm_R, J, L) Q := by
  have hN8 := v.1
  have v' := uI_v v r t.2.2
  have hcc := ch_n v' hc
  have hc8 : mm_in (nI c) 8 = true := v'.in8 hcc
  obtain ⟨b1, b2, b3, b4⟩ := hR.2 c hc
  have zqs := v'.sin hR.1 hcc
  obtain ⟨sn, hsn⟩ : ∃ sn, i_next t.2.2 = sn := ⟨_, rfl⟩
  obtain ⟨x, hx⟩ : ∃ x, i_draw sn 100 = x := ⟨_, rfl⟩
  obtain ⟨a1, a2, a3, a4, a5, a6, a7, a8, a9⟩ := puts_q hR.1 (nI c)
  have z1 : sr J 108 (m_puts J (nI c)) 133 (nI c).toNatClampNeg = (t.1 c).1 := by rw [sr_other _ _ (by decide), nI_clamp (by omega)]; exact b1
  have z2 : mm_u (sr J 108 (m_puts J (nI c))) 108 42 (t.1 c).1 134 (nI c).toNatClampNeg = (t.1 c).2.1 := by rw [mm_u_o _ _ _ _ (by decide), sr_other _ _ (by decide), nI_clamp (by omega)]; exact b2
  have z3 : mm_u (mm_u (sr J 108 (m_puts J (nI c))) 108 42 (t.1 c).1) 108 43 (t.1 c).2.1 135 (nI c).toNatClampNeg = (t.1 c).2.2 := by rw [mm_u_o _ _ _ _ (by decide), mm_u_o _ _ _ _ (by decide), sr_other _ _ (by decide), nI_clamp (by omega)]; exact b3
  have zqd : isKd (k1 J c (t.1 c) 108 35) := by
    rw [k1_j _ _ _ (by decide) (by decide) (by decide), a2]
    exact isKd_wi (v'.k (mm_in_lt hc8)).1
  have zql : k1 J c (t.1 c) 108 41 = 0 ∨ k1 J c (t.1 c) 108 41 = 1 := by
    rw [k1_j _ _ _ (by decide) (by decide) (by decide), a6]
    exact v'.2.2.2.2.2.2.2.2.1
  have zsn : i_next (k1 J c (t.1 c) 108 8) = sn := by
    rw [k1_j _ _ _ (by decide) (by decide) (by decide), a9 8 (by omega), hR.1.r (by omega), uI_8]
    exact hsn
  have zqq := fun (K : pI) (h : q2 (k1 J c (t.1 c)) sn x K) => k1_q v hR.1 (show c < 8 by omega) h
  have zqy : y_r1 I s c t = (yu t.1 c (y_tc I c (t.1 c) x), (if I 108 2 ≤ (y_tc I c (t.1 c) x).1 then yu t.2.1 c (y_ro I c s) else t.2.1), y_sd (t.1 c) t.2.2 sn) := by
    unfold y_r1
    rw [if_neg hw, hsn, hx]
    rfl
  refine gp_aload_n dX9_raced_125 rfl ?_
  refine gp_iload_n dX9_raced_126 rfl ?_
  refine gp_call (kind := 1) (args := [.ref _, .int _]) (rest := _) dX9_raced_127 (Or.inr (Or.inl ⟨rfl, rfl⟩)) mk_9_134 (by decide) me_166 rfl rfl rfl rfl rfl (mm_rc_of (by first | rfl | assumption | (simp only [*]; done))) (ok_X9_puts _ J _ (nI c) hc8 zqs) rfl ?_
  refine gp_aload_n dX9_raced_130 rfl ?_
  refine gp_aload_n dX9_raced_131 rfl ?_
  refine gp_gr dX9_raced_132 mf_9_102 rfl (by first | rfl | assumption | (simp only [*]; done)) (by first | rfl | assumption | (simp only [*]; done)) ?_
  refine gp_iload_n dX9_raced_135 rfl ?_
  refine gp_ialv dX9_raced_136 rfl rfl hc8 z1 ?_
  refine gp_pi dX9_raced_137 mf_9_257 rfl rfl (by first | rfl | assumption | (simp only [*]; done)) ?_
  refine gp_aload_n dX9_raced_140 rfl ?_
  refine gp_aload_n dX9_raced_141 rfl ?_
  refine gp_gr dX9_raced_142 mf_9_105 rfl (by first | rfl | assumption | (simp only [*]; done)) (by first | rfl | assumption | (simp only [*]; done)) ?_
  refine gp_iload_n dX9_raced_145 rfl ?_
  refine gp_ialv dX9_raced_146 rfl rfl hc8 z2 ?_
  refine gp_pi dX9_raced_147 mf_9_254 rfl rfl (by first | rfl | assumption | (simp only [*]; done)) ?_
  refine gp_aload_n dX9_raced_150 rfl ?_
  refine gp_aload_n dX9_raced_151 rfl ?_
  refine gp_gr dX9_raced_152 mf_9_108 rfl (by first | rfl | assumption | (simp only [*]; done)) (by first | rfl | assumption | (simp only [*]; done)) ?_
  refine gp_iload_n dX9_raced_155 rfl ?_
  refine gp_ialv dX9_raced_156 rfl rfl hc8 z3 ?_
  refine gp_pi dX9_raced_157 mf_9_263 rfl rfl (by first | rfl | assumption | (simp only [*]; done)) ?_
  refine gp_aload_n dX9_raced_160 rfl ?_
  refine gp_callX (kind := 1) (args := [.ref _]) (rest := _) dX9_raced_161 (Or.inr (Or.inl ⟨rfl, rfl⟩)) mk_9_340 (by decide) me_207 rfl rfl rfl rfl rfl (mm_rc_of (by first | rfl | assumption | (simp only [*]; done))) (ms_second _ zqd zql zsn hx) ?_
  intro K1 hK1
  (refine dn_rc2 d hc8 (p := (y_tc I c (t.1 c) x).1) (b := (y_tc I c (t.1 c) x).2.1) (w := (y_tc I c (t.1 c) x).2.2) (W := I 108 2) (R := y_ro I c s) (congrArg (fun q : rS => q.1) (zqq K1 hK1).2.1) (congrArg (fun q : rS => q.2.1) (zqq K1 hK1).2.1) (congrArg (fun q : rS => q.2.2) (zqq K1 hK1).2.1) (zqq K1 hK1).2.2.2.1 ((zqq K1 hK1).2.2.2.2 (nI s)) (fun z => ?_) (fun z => ?_)
   · refine hk _ ?_
     rw [nI_clamp (by omega), zqy, if_neg (Int32.not_le.mpr z)]
     exact rR_k3 hR (zqq K1 hK1).1 (zqq K1 hK1).2.2.1
   · refine hk _ ?_
     rw [nI_clamp (by omega), zqy, if_pos (Int32.not_lt.mp z)]
     exact rR_136 (rR_k3 hR (zqq K1 hK1).1 (zqq K1 hK1).2.2.1))
end P98e
