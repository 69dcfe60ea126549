/-! PUBLIC METHODS: field: what an item does -/
section P98vb
variable {I C J K V : pI} {L : pL} {N S : Nat} {t : Nat → Int32} {z E w : Nat} {f : Nat → Int32}

theorem pr_lt {x : Int32} {n : Nat} (hn : n ≤ 8) (h : x ≤ nI n - 1) (h0 : wi x 0 999) : 0 ≤ x ∧ x < nI n := by
  have e : (nI n - 1).toInt = n - 1 := by rw [ti_sub (by rw [ti_nI (by omega), ti_1]; omega) (by rw [ti_nI (by omega), ti_1]; omega), ti_nI (by omega), ti_1]
  rw [ti_le, e] at h
  obtain ⟨a, b⟩ := h0
  rw [ti_le, ti_lt, ti_0, ti_nI (by omega)]
  omega
theorem pr_wi {x : Int32} {a b : Int32} {p q : Int} (h : a ≤ x ∧ x ≤ b ∧ wi x 0 999) (ha : a.toInt = p) (hb : b.toInt = q) : wi x p q := by
  obtain ⟨h1, h2, -⟩ := h
  rw [ti_le] at h1 h2
  unfold wi
  omega
/-- numbers that an item may have -/
def nOf (V : pI) (w : Nat) (f : Nat → Int32) : Prop := ∀ j, j < y_cn w → y_lo w j ≤ f j ∧ f j ≤ y_hi V w j ∧ wi (f j) 0 999
theorem n_0 (h : nOf V 0 f) : wi (f 0) 0 6 ∧ wi (f 1) 0 9 ∧ wi (f 2) 1 9 := ⟨pr_wi (h 0 (by decide)) rfl rfl, pr_wi (h 1 (by decide)) rfl rfl, pr_wi (h 2 (by decide)) rfl rfl⟩
theorem n_1 (h : nOf V 1 f) : wi (f 0) 1 9 ∧ wi (f 1) 0 9 := ⟨pr_wi (h 0 (by decide)) rfl rfl, pr_wi (h 1 (by decide)) rfl rfl⟩
theorem n_2 (v : vN V N S) (h : nOf V 2 f) : (0 ≤ f 0 ∧ f 0 < nI N) ∧ (0 ≤ f 1 ∧ f 1 < nI S) := by
  have a := h 0 (by decide)
  have b := h 1 (by decide)
  have e0 : y_hi V 2 0 = V 108 0 - 1 := rfl
  have e1 : y_hi V 2 1 = V 108 1 - 1 := rfl
  rw [e0, v.2.2.1] at a
  rw [e1, v.2.2.2.1] at b
  exact ⟨pr_lt v.1 a.2.1 a.2.2, pr_lt v.2.1 b.2.1 b.2.2⟩
theorem n_3 (v : vN V N S) (h : nOf V 3 f) : (0 ≤ f 0 ∧ f 0 < nI N) ∧ wi (f 1) 0 99 := by
  have a := h 0 (by decide)
  have e0 : y_hi V 3 0 = V 108 0 - 1 := rfl
  rw [e0, v.2.2.1] at a
  exact ⟨pr_lt v.1 a.2.1 a.2.2, pr_wi (h 1 (by decide)) rfl rfl⟩
theorem n_4 (h : nOf V 4 f) : wi (f 0) 1 200 := pr_wi (h 0 (by decide)) rfl rfl
theorem n_5 (h : nOf V 5 f) : wi (f 0) 1 20 := pr_wi (h 0 (by decide)) rfl rfl
theorem n_6 (h : nOf V 6 f) : wi (f 0) 0 9 := pr_wi (h 0 (by decide)) rfl rfl
theorem n_7 (h : nOf V 7 f) : wi (f 0) 0 60 := pr_wi (h 0 (by decide)) rfl rfl
theorem fu_0 (v : vN V N S) (h : ¬ y_fu V 0) : N < 8 := by
  have : ¬ N = 8 := fun q => h (Or.inl ⟨rfl, by rw [v.2.2.1, q]; rfl⟩)
  have := v.1
  omega
theorem fu_1 (v : vN V N S) (h : ¬ y_fu V 1) : S < 8 := by
  have : ¬ S = 8 := fun q => h (Or.inr ⟨rfl, by rw [v.2.2.2.1, q]; rfl⟩)
  have := v.2.1
  omega
theorem y_ef_0 (v0 : V 108 0 = nI N) (v1 : V 108 1 = nI S) (hN : N ≤ 8) (hS : S ≤ 8) : y_ef V 0 f = v_ch V N S (f 0) (f 1) (f 2) := by
  unfold y_ef
  rw [if_pos rfl, v0, v1, nI_clamp (by omega), nI_clamp (by omega)]
theorem y_ef_1 (v1 : V 108 1 = nI S) (hS : S ≤ 8) : y_ef V 1 f = v_sk V S (f 0) (f 1) := by
  unfold y_ef
  rw [if_neg (by decide), if_pos rfl, v1, nI_clamp (by omega)]
theorem y_ef_2 : y_ef V 2 f = mm_u V 113 (f 0).toNatClampNeg (f 1) := rfl
theorem y_ef_3 : y_ef V 3 f = mm_u V 114 (f 0).toNatClampNeg (f 1) := rfl
theorem y_ef_t (hw : 4 ≤ w) : y_ef V w f = mm_u V 108 (w - 2) (f 0) := by
  unfold y_ef
  rw [if_neg (by omega), if_neg (by omega), if_neg (by omega), if_neg (by omega)]
theorem mm_u_8 {a b k j : Nat} {x : Int32} (h : fK8 a b) (hk : ¬ fK8 k j) : mm_u V a b x k j = V k j := by
  rw [mm_u_i, if_neg]
  rintro ⟨rfl, rfl⟩
  exact hk h
theorem fK8_a {a b : Nat} (h : 110 ≤ a ∧ a ≤ 117) (hb : b < 8) : fK8 a b := Or.inr ⟨h.1, h.2, hb⟩
theorem fK8_b {b : Nat} (hb : b < 9) : fK8 108 b := Or.inl ⟨rfl, hb⟩
/-- outside the field nothing changes -/
theorem y_ef_o (v : vN V N S) (hw : w < 8) (hfu : ¬ y_fu V w) (hf : nOf V w f) (j0 : J 108 0 = nI N) (j1 : J 108 1 = nI S) {k j : Nat} (hk : ¬ fK8 k j) : y_ef J w f k j = J k j := by
  by_cases w0 : w = 0
  · subst w0
    have h8 := fu_0 v hfu
    rw [y_ef_0 j0 j1 v.1 v.2.1]
    unfold v_ch
    rw [nI_clamp (by omega), mm_u_8 (fK8_b (by omega)) hk, mm_u_8 (fK8_a (by omega) h8) hk, mm_u_8 (fK8_a (by omega) h8) hk, mm_u_8 (fK8_a (by omega) h8) hk, mm_u_8 (fK8_a (by omega) h8) hk, mm_u_8 (fK8_a (by omega) h8) hk, mm_u_8 (fK8_a (by omega) h8) hk]
  · by_cases w1 : w = 1
    · subst w1
      have h8 := fu_1 v hfu
      rw [y_ef_1 j1 v.2.1]
      unfold v_sk
      rw [mm_u_8 (fK8_b (by omega)) hk, mm_u_8 (fK8_a (by omega) h8) hk, mm_u_8 (fK8_a (by omega) h8) hk]
    · by_cases w2 : w = 2
      · subst w2
        rw [y_ef_2, mm_u_8 (fK8_a (by omega) (v.cl (n_2 v hf).1).2.1) hk]
      · by_cases w3 : w = 3
        · subst w3
          rw [y_ef_3, mm_u_8 (fK8_a (by omega) (v.cl (n_3 v hf).1).2.1) hk]
        · rw [y_ef_t (by omega), mm_u_8 (fK8_b (by omega)) hk]
theorem vN_sk (v : vN V N S) (hS : S < 8) {l h : Int32} (hl : wi l 1 9) (hh : wi h 0 9) : vN (v_sk V S l h) N (S + 1) := by
  unfold v_sk
  exact ((v.sk (j := 0) (c := S) (by decide) ⟨by have := hl.1; omega, hl.2⟩).sk (j := 1) (c := S) (by decide) hh).fl (j := 1) v.1 (by omega) (by omega) rfl (by rw [if_pos rfl]; exact (nI_1 S)) ⟨fun q => absurd q (by decide), fun q => absurd q (by decide), fun q => absurd q (by decide), fun q => absurd q (by decide), fun q => absurd q (by decide)⟩
/-- the field that comes of it may be -/
theorem y_ef_v (v : vN V N S) (hw : w < 8) (hfu : ¬ y_fu V w) (hf : nOf V w f) : ∃ N' S', vN (y_ef V w f) N' S' := by
  have zqw : w = 0 ∨ w = 1 ∨ w = 2 ∨ w = 3 ∨ w = 4 ∨ w = 5 ∨ w = 6 ∨ w = 7 := by omega
  have ab : ∀ {p q : Nat} {P : Prop}, p ≠ q → p = q → P := fun h h2 => absurd h2 h
  rcases zqw with rfl | rfl | rfl | rfl | rfl | rfl | rfl | rfl
  · rw [y_ef_0 v.2.2.1 v.2.2.2.1 v.1 v.2.1]
    obtain ⟨a, b, c⟩ := n_0 hf
    exact ⟨N + 1, S, vN_ch v (fu_0 v hfu) a b c⟩
  · rw [y_ef_1 v.2.2.2.1 v.2.1]
    obtain ⟨a, b⟩ := n_1 hf
    exact ⟨N, S + 1, vN_sk v (fu_1 v hfu) a b⟩
  · obtain ⟨a, b⟩ := n_2 v hf
    exact ⟨N, S, v.ch (j := 3) (by decide) ⟨ab (by decide), ab (by decide), ab (by decide), fun _ => Or.inr b, ab (by decide)⟩⟩
  · obtain ⟨a, b⟩ := n_3 v hf
    exact ⟨N, S, v.ch (j := 4) (by decide) ⟨ab (by decide), ab (by decide), ab (by decide), ab (by decide), fun _ => b⟩⟩
  · exact ⟨N, S, v.fl (j := 2) v.1 v.2.1 (Nat.le_refl _) rfl rfl ⟨fun _ => n_4 hf, ab (by decide), ab (by decide), ab (by decide), ab (by decide)⟩⟩
  · exact ⟨N, S, v.fl (j := 3) v.1 v.2.1 (Nat.le_refl _) rfl rfl ⟨ab (by decide), fun _ => n_5 hf, ab (by decide), ab (by decide), ab (by decide)⟩⟩
  · exact ⟨N, S, v.fl (j := 4) v.1 v.2.1 (Nat.le_refl _) rfl rfl ⟨ab (by decide), ab (by decide), fun _ => n_6 hf, ab (by decide), ab (by decide)⟩⟩
  · exact ⟨N, S, v.fl (j := 5) v.1 v.2.1 (Nat.le_refl _) rfl rfl ⟨ab (by decide), ab (by decide), ab (by decide), fun _ => n_7 hf, ab (by decide)⟩⟩
/-- the number of children never falls -/
theorem y_ef_m (v : vN V N S) (hw : w < 8) (hfu : ¬ y_fu V w) : V 108 0 ≤ y_ef V w f 108 0 := by
  by_cases w0 : w = 0
  · subst w0
    have h8 := fu_0 v hfu
    rw [y_ef_0 v.2.2.1 v.2.2.2.1 v.1 v.2.1]
    unfold v_ch
    rw [mm_u_s, v.2.2.1, nI_1]
    exact nI_le (by omega) (by omega)
  · have e : y_ef V w f 108 0 = V 108 0 := by
      unfold y_ef
      rw [if_neg w0]
      by_cases w1 : w = 1
      · rw [if_pos w1]
        unfold v_sk
        rw [mm_u_j _ _ (by decide), mm_u_o _ _ _ _ (by decide), mm_u_o _ _ _ _ (by decide)]
      · rw [if_neg w1]
        by_cases w2 : w = 2
        · rw [if_pos w2, mm_u_o _ _ _ _ (by decide)]
        · rw [if_neg w2]
          by_cases w3 : w = 3
          · rw [if_pos w3, mm_u_o _ _ _ _ (by decide)]
          · rw [if_neg w3, mm_u_j _ _ (by omega)]
    rw [e]
    exact Int32.le_refl _

theorem x_addS_g (h : J 21 3 = nI S) (hS : S ≤ 8) (l h2 : Int32) : x_addS J 21 l h2 = mm_u (mm_u (mm_u J (21 + 12 + S) 0 l) (21 + 12 + S) 1 h2) 21 3 (nI S + 1) := by
  unfold x_addS
  rw [h, nI_clamp (by omega)]
  simp only [mm_u_sr, sr_same, sr_sr]
  rw [sr_other _ _ (by omega)]
theorem rF_sk (h : rF 21 J V) (hS : S < 8) (l h2 : Int32) : rF 21 (mm_u (mm_u (mm_u J (21 + 12 + S) 0 l) (21 + 12 + S) 1 h2) 21 3 (nI S + 1)) (v_sk V S l h2) := ((h.sk (j := 0) l hS (by decide)).sk (j := 1) h2 hS (by decide)).fl (p := 3) (q := 1) _ (by decide)
theorem x_term_21 {x : Int32} {k : Nat} (hk : k < 4) : x_term J 21 (nI k) x = mm_u J (21 + 3) k x := by
  unfold x_term
  rw [if_pos ⟨nI_pos' (by omega), nI_lt (b := 4) hk (by omega)⟩, mm_u_sr, nI_clamp (by omega)]
def tlX (V : pI) (w : Nat) (f : Nat → Int32) (J K : pI) : Prop := rF 21 K (y_ef V w f) ∧ ∀ a, a < 21 ∨ 40 < a → K a = J a

set_option maxHeartbeats 400000 in
theorem tl5_0 (d : Nat) (v : vN V N S) (hF : rF 21 J V) (hfu : ¬ y_fu V 0) (hf : nOf V 0 f) (hj : ∀ j, j < 3 → J 66 j = f j) : cP (d + 3) 40 [.ref 65, .ref 21, .int (0)] (mm_sh, mm_R, J, L) (pX none L (tlX V 0 f J)) := by
  have zq1 : J 21 1 = nI N := hF.1.trans v.2.2.1
  have zq3 : J 21 3 = nI S := hF.2.1.trans v.2.2.2.1
  have hf0 : J 66 0 = f 0 := hj 0 (by decide)
  have hf1 : J 66 1 = f 1 := hj 1 (by decide)
  have hf2 : J 66 2 = f 2 := hj 2 (by decide)
  have zqN := fu_0 v hfu
  have zqp : 0 ≤ J 21 1 ∧ J 21 1 < 8 := by rw [zq1]; exact ⟨nI_pos' (by omega), nI_lt (b := 8) zqN (by omega)⟩
  refine cP.of_gP (d := d + 2) me_40 ⟨Nat.le_of_ble_eq_true rfl, rfl⟩ ?_
  show gP mm_cs0 _ _ _ _ _ _ [some (.ref _), some (.ref _), some (.int _)] [] _ _
  refine gp_iload_n dX5_tell_0 rfl ?_
  refine gp_ts (t := 32) dX5_tell_1 rfl (by decide) ?_
  refine gp_aload_n dX5_tell_32 rfl ?_
  refine gp_aload_n dX5_tell_33 rfl ?_
  refine gp_gr dX5_tell_34 mf_5_11 rfl (by first | rfl | assumption | (simp only [*]; done)) (by first | rfl | assumption | (simp only [*]; done)) ?_
  refine gp_pu (st' := .int (0) :: _) dX5_tell_37 rfl ?_
  refine gp_ialv dX5_tell_38 rfl (by first | rfl | assumption | (simp only [*]; done)) (by first | rfl | assumption | (simp only [*]; done)) (by first | exact hf0 | exact hf1 | exact hf2 | exact rfl) ?_
  refine gp_aload_n dX5_tell_39 rfl ?_
  refine gp_gr dX5_tell_40 mf_5_11 rfl (by first | rfl | assumption | (simp only [*]; done)) (by first | rfl | assumption | (simp only [*]; done)) ?_
  refine gp_pu (st' := .int (1) :: _) dX5_tell_43 rfl ?_
  refine gp_ialv dX5_tell_44 rfl (by first | rfl | assumption | (simp only [*]; done)) (by first | rfl | assumption | (simp only [*]; done)) (by first | exact hf0 | exact hf1 | exact hf2 | exact rfl) ?_
  refine gp_aload_n dX5_tell_45 rfl ?_
  refine gp_gr dX5_tell_46 mf_5_11 rfl (by first | rfl | assumption | (simp only [*]; done)) (by first | rfl | assumption | (simp only [*]; done)) ?_
  refine gp_pu (st' := .int (2) :: _) dX5_tell_49 rfl ?_
  refine gp_ialv dX5_tell_50 rfl (by first | rfl | assumption | (simp only [*]; done)) (by first | rfl | assumption | (simp only [*]; done)) (by first | exact hf0 | exact hf1 | exact hf2 | exact rfl) ?_
  refine gp_call (kind := 1) (args := [.ref _, .int _, .int _, .int _]) (rest := _) dX5_tell_51 (Or.inr (Or.inl ⟨rfl, rfl⟩)) mk_5_89 (by decide) me_5 rfl rfl rfl rfl rfl (mm_rc_of (by first | rfl | assumption | (simp only [*]; done))) (ok_X1_addChild _ J L 21 isF_21 _ _ _ zqp) rfl ?_
  refine gp_pu dX5_tell_54 rfl ?_
  refine gp_goto (t := 163) dX5_tell_55 (by decide) ?_
  refine gp_vret dX5_tell_163 rfl ?_
  (refine pX.mk rfl ⟨?_, fun a ha => ?_⟩; (case refine_1 => (rw [y_ef_0 v.2.2.1 v.2.2.2.1 v.1 v.2.1, x_addC_u zq1 zq3 v.1 v.2.1]; exact rF_ch hF zqN _ _ _)); (case refine_2 => (rw [x_addC_u zq1 zq3 v.1 v.2.1]; unfold u_ch; rw [nI_clamp (by omega), mm_u_k _ _ _ (by omega), mm_u_k _ _ _ (by omega), mm_u_k _ _ _ (by omega), mm_u_k _ _ _ (by omega), mm_u_k _ _ _ (by omega), mm_u_k _ _ _ (by omega), mm_u_k _ _ _ (by omega)])))

set_option maxHeartbeats 400000 in
theorem tl5_1 (d : Nat) (v : vN V N S) (hF : rF 21 J V) (hfu : ¬ y_fu V 1) (hf : nOf V 1 f) (hj : ∀ j, j < 2 → J 66 j = f j) : cP (d + 3) 40 [.ref 65, .ref 21, .int (1)] (mm_sh, mm_R, J, L) (pX none L (tlX V 1 f J)) := by
  have zq1 : J 21 1 = nI N := hF.1.trans v.2.2.1
  have zq3 : J 21 3 = nI S := hF.2.1.trans v.2.2.2.1
  have hf0 : J 66 0 = f 0 := hj 0 (by decide)
  have hf1 : J 66 1 = f 1 := hj 1 (by decide)
  have zqN := fu_1 v hfu
  have zqp : 0 ≤ J 21 3 ∧ J 21 3 < 8 := by rw [zq3]; exact ⟨nI_pos' (by omega), nI_lt (b := 8) zqN (by omega)⟩
  refine cP.of_gP (d := d + 2) me_40 ⟨Nat.le_of_ble_eq_true rfl, rfl⟩ ?_
  show gP mm_cs0 _ _ _ _ _ _ [some (.ref _), some (.ref _), some (.int _)] [] _ _
  refine gp_iload_n dX5_tell_0 rfl ?_
  refine gp_ts (t := 58) dX5_tell_1 rfl (by decide) ?_
  refine gp_aload_n dX5_tell_58 rfl ?_
  refine gp_aload_n dX5_tell_59 rfl ?_
  refine gp_gr dX5_tell_60 mf_5_11 rfl (by first | rfl | assumption | (simp only [*]; done)) (by first | rfl | assumption | (simp only [*]; done)) ?_
  refine gp_pu (st' := .int (0) :: _) dX5_tell_63 rfl ?_
  refine gp_ialv dX5_tell_64 rfl (by first | rfl | assumption | (simp only [*]; done)) (by first | rfl | assumption | (simp only [*]; done)) (by first | exact hf0 | exact hf1 | exact rfl) ?_
  refine gp_aload_n dX5_tell_65 rfl ?_
  refine gp_gr dX5_tell_66 mf_5_11 rfl (by first | rfl | assumption | (simp only [*]; done)) (by first | rfl | assumption | (simp only [*]; done)) ?_
  refine gp_pu (st' := .int (1) :: _) dX5_tell_69 rfl ?_
  refine gp_ialv dX5_tell_70 rfl (by first | rfl | assumption | (simp only [*]; done)) (by first | rfl | assumption | (simp only [*]; done)) (by first | exact hf0 | exact hf1 | exact rfl) ?_
  refine gp_call (kind := 1) (args := [.ref _, .int _, .int _]) (rest := _) dX5_tell_71 (Or.inr (Or.inl ⟨rfl, rfl⟩)) mk_5_95 (by decide) me_6 rfl rfl rfl rfl rfl (mm_rc_of (by first | rfl | assumption | (simp only [*]; done))) (ok_X1_addSack _ J L 21 isF_21 _ _ zqp) rfl ?_
  refine gp_pu dX5_tell_74 rfl ?_
  refine gp_goto (t := 163) dX5_tell_75 (by decide) ?_
  refine gp_vret dX5_tell_163 rfl ?_
  (refine pX.mk rfl ⟨?_, fun a ha => ?_⟩; (case refine_1 => (rw [y_ef_1 v.2.2.2.1 v.2.1, x_addS_g zq3 v.2.1]; exact rF_sk hF zqN _ _)); (case refine_2 => (rw [x_addS_g zq3 v.2.1, mm_u_k _ _ _ (by omega), mm_u_k _ _ _ (by omega), mm_u_k _ _ _ (by omega)])))

set_option maxHeartbeats 400000 in
theorem tl5_2 (d : Nat) (v : vN V N S) (hF : rF 21 J V) (hfu : ¬ y_fu V 2) (hf : nOf V 2 f) (hj : ∀ j, j < 2 → J 66 j = f j) : cP (d + 3) 40 [.ref 65, .ref 21, .int (2)] (mm_sh, mm_R, J, L) (pX none L (tlX V 2 f J)) := by
  have zq1 : J 21 1 = nI N := hF.1.trans v.2.2.1
  have zq3 : J 21 3 = nI S := hF.2.1.trans v.2.2.2.1
  have hf0 : J 66 0 = f 0 := hj 0 (by decide)
  have hf1 : J 66 1 = f 1 := hj 1 (by decide)
  have zqb := (n_2 v hf).1
  have zq8 : (f 0).toNatClampNeg < 8 := (v.cl zqb).2.1
  have zqi := v.in8 zqb
  have zqr : mm_R 22 (f 0).toNatClampNeg = some (25 + (f 0).toNatClampNeg) := (isF_21.2.2.2.2.2.2.2 _ zq8).1
  have zqs : mm_sh[25 + (f 0).toNatClampNeg]? = some (0, 0) := (isF_21.2.2.2.2.2.2.2 _ zq8).2.1
  refine cP.of_gP (d := d + 2) me_40 ⟨Nat.le_of_ble_eq_true rfl, rfl⟩ ?_
  show gP mm_cs0 _ _ _ _ _ _ [some (.ref _), some (.ref _), some (.int _)] [] _ _
  refine gp_iload_n dX5_tell_0 rfl ?_
  refine gp_ts (t := 78) dX5_tell_1 rfl (by decide) ?_
  refine gp_aload_n dX5_tell_78 rfl ?_
  refine gp_aload_n dX5_tell_79 rfl ?_
  refine gp_gr dX5_tell_80 mf_5_11 rfl (by first | rfl | assumption | (simp only [*]; done)) (by first | rfl | assumption | (simp only [*]; done)) ?_
  refine gp_pu (st' := .int (0) :: _) dX5_tell_83 rfl ?_
  refine gp_ialv dX5_tell_84 rfl (by first | rfl | assumption | (simp only [*]; done)) (by first | rfl | assumption | (simp only [*]; done)) (by first | exact hf0 | exact hf1 | exact rfl) ?_
  refine gp_call (kind := 1) (args := [.ref _, .int _]) (rest := _) dX5_tell_85 (Or.inr (Or.inl ⟨rfl, rfl⟩)) mk_5_98 (by decide) me_3 rfl rfl rfl rfl rfl (mm_rc_of (by first | rfl | assumption | (simp only [*]; done))) (ok_X1_hasChild _ _ _ 21 rfl _) rfl ?_
  refine gp_ifc (t := 163) dX5_tell_88 (by decide) c1_eq (fun h1 => ?_) (fun h1 => ?_)
  · exact absurd (bi_0.mp h1) (fun y => y (by rw [zq1]; exact zqb))
  · refine gp_aload_n dX5_tell_91 rfl ?_
    refine gp_gr dX5_tell_92 mf_5_101 rfl (by first | rfl | assumption | (simp only [*]; done)) (by first | rfl | assumption | (simp only [*]; done)) ?_
    refine gp_aload_n dX5_tell_95 rfl ?_
    refine gp_gr dX5_tell_96 mf_5_11 rfl (by first | rfl | assumption | (simp only [*]; done)) (by first | rfl | assumption | (simp only [*]; done)) ?_
    refine gp_pu (st' := .int (0) :: _) dX5_tell_99 rfl ?_
    refine gp_ialv dX5_tell_100 rfl (by first | rfl | assumption | (simp only [*]; done)) (by first | rfl | assumption | (simp only [*]; done)) (by first | exact hf0 | exact hf1 | exact rfl) ?_
    refine gp_aal dX5_tell_101 (by first | rfl | assumption | (simp only [*]; done)) (by decide) zqi zqr ?_
    refine gp_aload_n dX5_tell_102 rfl ?_
    refine gp_gr dX5_tell_103 mf_5_11 rfl (by first | rfl | assumption | (simp only [*]; done)) (by first | rfl | assumption | (simp only [*]; done)) ?_
    refine gp_pu (st' := .int (1) :: _) dX5_tell_106 rfl ?_
    refine gp_ialv dX5_tell_107 rfl (by first | rfl | assumption | (simp only [*]; done)) (by first | rfl | assumption | (simp only [*]; done)) (by first | exact hf0 | exact hf1 | exact rfl) ?_
    refine gp_pi dX5_tell_108 mf_5_105 rfl rfl (by first | rfl | assumption | (simp only [*]; done)) ?_
    refine gp_goto (t := 163) dX5_tell_111 (by decide) ?_
    refine gp_vret dX5_tell_163 rfl ?_
    exact pX.mk rfl ⟨hF.ch (j := 3) (f 1) zq8 (by decide), fun a ha => mm_u_k _ _ _ (by omega)⟩

set_option maxHeartbeats 400000 in
theorem tl5_3 (d : Nat) (v : vN V N S) (hF : rF 21 J V) (hfu : ¬ y_fu V 3) (hf : nOf V 3 f) (hj : ∀ j, j < 2 → J 66 j = f j) : cP (d + 3) 40 [.ref 65, .ref 21, .int (3)] (mm_sh, mm_R, J, L) (pX none L (tlX V 3 f J)) := by
  have zq1 : J 21 1 = nI N := hF.1.trans v.2.2.1
  have zq3 : J 21 3 = nI S := hF.2.1.trans v.2.2.2.1
  have hf0 : J 66 0 = f 0 := hj 0 (by decide)
  have hf1 : J 66 1 = f 1 := hj 1 (by decide)
  have zqb := (n_3 v hf).1
  have zq8 : (f 0).toNatClampNeg < 8 := (v.cl zqb).2.1
  have zqi := v.in8 zqb
  have zqr : mm_R 22 (f 0).toNatClampNeg = some (25 + (f 0).toNatClampNeg) := (isF_21.2.2.2.2.2.2.2 _ zq8).1
  have zqs : mm_sh[25 + (f 0).toNatClampNeg]? = some (0, 0) := (isF_21.2.2.2.2.2.2.2 _ zq8).2.1
  refine cP.of_gP (d := d + 2) me_40 ⟨Nat.le_of_ble_eq_true rfl, rfl⟩ ?_
  show gP mm_cs0 _ _ _ _ _ _ [some (.ref _), some (.ref _), some (.int _)] [] _ _
  refine gp_iload_n dX5_tell_0 rfl ?_
  refine gp_ts (t := 114) dX5_tell_1 rfl (by decide) ?_
  refine gp_aload_n dX5_tell_114 rfl ?_
  refine gp_aload_n dX5_tell_115 rfl ?_
  refine gp_gr dX5_tell_116 mf_5_11 rfl (by first | rfl | assumption | (simp only [*]; done)) (by first | rfl | assumption | (simp only [*]; done)) ?_
  refine gp_pu (st' := .int (0) :: _) dX5_tell_119 rfl ?_
  refine gp_ialv dX5_tell_120 rfl (by first | rfl | assumption | (simp only [*]; done)) (by first | rfl | assumption | (simp only [*]; done)) (by first | exact hf0 | exact hf1 | exact rfl) ?_
  refine gp_call (kind := 1) (args := [.ref _, .int _]) (rest := _) dX5_tell_121 (Or.inr (Or.inl ⟨rfl, rfl⟩)) mk_5_98 (by decide) me_3 rfl rfl rfl rfl rfl (mm_rc_of (by first | rfl | assumption | (simp only [*]; done))) (ok_X1_hasChild _ _ _ 21 rfl _) rfl ?_
  refine gp_ifc (t := 163) dX5_tell_124 (by decide) c1_eq (fun h1 => ?_) (fun h1 => ?_)
  · exact absurd (bi_0.mp h1) (fun y => y (by rw [zq1]; exact zqb))
  · refine gp_aload_n dX5_tell_127 rfl ?_
    refine gp_gr dX5_tell_128 mf_5_101 rfl (by first | rfl | assumption | (simp only [*]; done)) (by first | rfl | assumption | (simp only [*]; done)) ?_
    refine gp_aload_n dX5_tell_131 rfl ?_
    refine gp_gr dX5_tell_132 mf_5_11 rfl (by first | rfl | assumption | (simp only [*]; done)) (by first | rfl | assumption | (simp only [*]; done)) ?_
    refine gp_pu (st' := .int (0) :: _) dX5_tell_135 rfl ?_
    refine gp_ialv dX5_tell_136 rfl (by first | rfl | assumption | (simp only [*]; done)) (by first | rfl | assumption | (simp only [*]; done)) (by first | exact hf0 | exact hf1 | exact rfl) ?_
    refine gp_aal dX5_tell_137 (by first | rfl | assumption | (simp only [*]; done)) (by decide) zqi zqr ?_
    refine gp_aload_n dX5_tell_138 rfl ?_
    refine gp_gr dX5_tell_139 mf_5_11 rfl (by first | rfl | assumption | (simp only [*]; done)) (by first | rfl | assumption | (simp only [*]; done)) ?_
    refine gp_pu (st' := .int (1) :: _) dX5_tell_142 rfl ?_
    refine gp_ialv dX5_tell_143 rfl (by first | rfl | assumption | (simp only [*]; done)) (by first | rfl | assumption | (simp only [*]; done)) (by first | exact hf0 | exact hf1 | exact rfl) ?_
    refine gp_pi dX5_tell_144 mf_5_110 rfl rfl (by first | rfl | assumption | (simp only [*]; done)) ?_
    refine gp_goto (t := 163) dX5_tell_147 (by decide) ?_
    refine gp_vret dX5_tell_163 rfl ?_
    exact pX.mk rfl ⟨hF.ch (j := 4) (f 1) zq8 (by decide), fun a ha => mm_u_k _ _ _ (by omega)⟩

set_option maxHeartbeats 400000 in
theorem tl5_4 (d : Nat) (v : vN V N S) (hF : rF 21 J V) (hfu : ¬ y_fu V 4) (hf : nOf V 4 f) (hj : ∀ j, j < 1 → J 66 j = f j) : cP (d + 3) 40 [.ref 65, .ref 21, .int (4)] (mm_sh, mm_R, J, L) (pX none L (tlX V 4 f J)) := by
  have zq1 : J 21 1 = nI N := hF.1.trans v.2.2.1
  have zq3 : J 21 3 = nI S := hF.2.1.trans v.2.2.2.1
  have hf0 : J 66 0 = f 0 := hj 0 (by decide)
  refine cP.of_gP (d := d + 2) me_40 ⟨Nat.le_of_ble_eq_true rfl, rfl⟩ ?_
  show gP mm_cs0 _ _ _ _ _ _ [some (.ref _), some (.ref _), some (.int _)] [] _ _
  refine gp_iload_n dX5_tell_0 rfl ?_
  refine gp_ts (t := 150) dX5_tell_1 rfl (by decide) ?_
  refine gp_aload_n dX5_tell_150 rfl ?_
  refine gp_iload_n dX5_tell_151 rfl ?_
  refine gp_pu (st' := .int (4) :: _) dX5_tell_152 rfl ?_
  refine gp_pu (st' := .int _ :: _) dX5_tell_153 rfl ?_
  refine gp_aload_n dX5_tell_154 rfl ?_
  refine gp_gr dX5_tell_155 mf_5_11 rfl (by first | rfl | assumption | (simp only [*]; done)) (by first | rfl | assumption | (simp only [*]; done)) ?_
  refine gp_pu (st' := .int (0) :: _) dX5_tell_158 rfl ?_
  refine gp_ialv dX5_tell_159 rfl (by first | rfl | assumption | (simp only [*]; done)) (by first | rfl | assumption | (simp only [*]; done)) (by first | exact hf0 | exact rfl) ?_
  refine gp_call (kind := 1) (args := [.ref _, .int _, .int _]) (rest := _) dX5_tell_160 (Or.inr (Or.inl ⟨rfl, rfl⟩)) mk_5_113 (by decide) me_7 rfl rfl rfl rfl rfl (mm_rc_of (by first | rfl | assumption | (simp only [*]; done))) (ok_X1_setTerm _ J L 21 isF_21 _ _) rfl ?_
  refine gp_vret dX5_tell_163 rfl ?_
  (have e : x_term J 21 (4 - 4) (f 0) = mm_u J (21 + 3) 0 (f 0) := x_term_21 (k := 0) (by decide); exact pX.mk rfl (by rw [e]; exact ⟨hF.tm (w := 0) (f 0) (by decide), fun a ha => mm_u_k _ _ _ (by omega)⟩))

set_option maxHeartbeats 400000 in
theorem tl5_5 (d : Nat) (v : vN V N S) (hF : rF 21 J V) (hfu : ¬ y_fu V 5) (hf : nOf V 5 f) (hj : ∀ j, j < 1 → J 66 j = f j) : cP (d + 3) 40 [.ref 65, .ref 21, .int (5)] (mm_sh, mm_R, J, L) (pX none L (tlX V 5 f J)) := by
  have zq1 : J 21 1 = nI N := hF.1.trans v.2.2.1
  have zq3 : J 21 3 = nI S := hF.2.1.trans v.2.2.2.1
  have hf0 : J 66 0 = f 0 := hj 0 (by decide)
  refine cP.of_gP (d := d + 2) me_40 ⟨Nat.le_of_ble_eq_true rfl, rfl⟩ ?_
  show gP mm_cs0 _ _ _ _ _ _ [some (.ref _), some (.ref _), some (.int _)] [] _ _
  refine gp_iload_n dX5_tell_0 rfl ?_
  refine gp_ts (t := 150) dX5_tell_1 rfl (by decide) ?_
  refine gp_aload_n dX5_tell_150 rfl ?_
  refine gp_iload_n dX5_tell_151 rfl ?_
  refine gp_pu (st' := .int (4) :: _) dX5_tell_152 rfl ?_
  refine gp_pu (st' := .int _ :: _) dX5_tell_153 rfl ?_
  refine gp_aload_n dX5_tell_154 rfl ?_
  refine gp_gr dX5_tell_155 mf_5_11 rfl (by first | rfl | assumption | (simp only [*]; done)) (by first | rfl | assumption | (simp only [*]; done)) ?_
  refine gp_pu (st' := .int (0) :: _) dX5_tell_158 rfl ?_
  refine gp_ialv dX5_tell_159 rfl (by first | rfl | assumption | (simp only [*]; done)) (by first | rfl | assumption | (simp only [*]; done)) (by first | exact hf0 | exact rfl) ?_
  refine gp_call (kind := 1) (args := [.ref _, .int _, .int _]) (rest := _) dX5_tell_160 (Or.inr (Or.inl ⟨rfl, rfl⟩)) mk_5_113 (by decide) me_7 rfl rfl rfl rfl rfl (mm_rc_of (by first | rfl | assumption | (simp only [*]; done))) (ok_X1_setTerm _ J L 21 isF_21 _ _) rfl ?_
  refine gp_vret dX5_tell_163 rfl ?_
  (have e : x_term J 21 (5 - 4) (f 0) = mm_u J (21 + 3) 1 (f 0) := x_term_21 (k := 1) (by decide); exact pX.mk rfl (by rw [e]; exact ⟨hF.tm (w := 1) (f 0) (by decide), fun a ha => mm_u_k _ _ _ (by omega)⟩))

set_option maxHeartbeats 400000 in
theorem tl5_6 (d : Nat) (v : vN V N S) (hF : rF 21 J V) (hfu : ¬ y_fu V 6) (hf : nOf V 6 f) (hj : ∀ j, j < 1 → J 66 j = f j) : cP (d + 3) 40 [.ref 65, .ref 21, .int (6)] (mm_sh, mm_R, J, L) (pX none L (tlX V 6 f J)) := by
  have zq1 : J 21 1 = nI N := hF.1.trans v.2.2.1
  have zq3 : J 21 3 = nI S := hF.2.1.trans v.2.2.2.1
  have hf0 : J 66 0 = f 0 := hj 0 (by decide)
  refine cP.of_gP (d := d + 2) me_40 ⟨Nat.le_of_ble_eq_true rfl, rfl⟩ ?_
  show gP mm_cs0 _ _ _ _ _ _ [some (.ref _), some (.ref _), some (.int _)] [] _ _
  refine gp_iload_n dX5_tell_0 rfl ?_
  refine gp_ts (t := 150) dX5_tell_1 rfl (by decide) ?_
  refine gp_aload_n dX5_tell_150 rfl ?_
  refine gp_iload_n dX5_tell_151 rfl ?_
  refine gp_pu (st' := .int (4) :: _) dX5_tell_152 rfl ?_
  refine gp_pu (st' := .int _ :: _) dX5_tell_153 rfl ?_
  refine gp_aload_n dX5_tell_154 rfl ?_
  refine gp_gr dX5_tell_155 mf_5_11 rfl (by first | rfl | assumption | (simp only [*]; done)) (by first | rfl | assumption | (simp only [*]; done)) ?_
  refine gp_pu (st' := .int (0) :: _) dX5_tell_158 rfl ?_
  refine gp_ialv dX5_tell_159 rfl (by first | rfl | assumption | (simp only [*]; done)) (by first | rfl | assumption | (simp only [*]; done)) (by first | exact hf0 | exact rfl) ?_
  refine gp_call (kind := 1) (args := [.ref _, .int _, .int _]) (rest := _) dX5_tell_160 (Or.inr (Or.inl ⟨rfl, rfl⟩)) mk_5_113 (by decide) me_7 rfl rfl rfl rfl rfl (mm_rc_of (by first | rfl | assumption | (simp only [*]; done))) (ok_X1_setTerm _ J L 21 isF_21 _ _) rfl ?_
  refine gp_vret dX5_tell_163 rfl ?_
  (have e : x_term J 21 (6 - 4) (f 0) = mm_u J (21 + 3) 2 (f 0) := x_term_21 (k := 2) (by decide); exact pX.mk rfl (by rw [e]; exact ⟨hF.tm (w := 2) (f 0) (by decide), fun a ha => mm_u_k _ _ _ (by omega)⟩))

set_option maxHeartbeats 400000 in
theorem tl5_7 (d : Nat) (v : vN V N S) (hF : rF 21 J V) (hfu : ¬ y_fu V 7) (hf : nOf V 7 f) (hj : ∀ j, j < 1 → J 66 j = f j) : cP (d + 3) 40 [.ref 65, .ref 21, .int (7)] (mm_sh, mm_R, J, L) (pX none L (tlX V 7 f J)) := by
  have zq1 : J 21 1 = nI N := hF.1.trans v.2.2.1
  have zq3 : J 21 3 = nI S := hF.2.1.trans v.2.2.2.1
  have hf0 : J 66 0 = f 0 := hj 0 (by decide)
  refine cP.of_gP (d := d + 2) me_40 ⟨Nat.le_of_ble_eq_true rfl, rfl⟩ ?_
  show gP mm_cs0 _ _ _ _ _ _ [some (.ref _), some (.ref _), some (.int _)] [] _ _
  refine gp_iload_n dX5_tell_0 rfl ?_
  refine gp_ts (t := 150) dX5_tell_1 rfl (by decide) ?_
  refine gp_aload_n dX5_tell_150 rfl ?_
  refine gp_iload_n dX5_tell_151 rfl ?_
  refine gp_pu (st' := .int (4) :: _) dX5_tell_152 rfl ?_
  refine gp_pu (st' := .int _ :: _) dX5_tell_153 rfl ?_
  refine gp_aload_n dX5_tell_154 rfl ?_
  refine gp_gr dX5_tell_155 mf_5_11 rfl (by first | rfl | assumption | (simp only [*]; done)) (by first | rfl | assumption | (simp only [*]; done)) ?_
  refine gp_pu (st' := .int (0) :: _) dX5_tell_158 rfl ?_
  refine gp_ialv dX5_tell_159 rfl (by first | rfl | assumption | (simp only [*]; done)) (by first | rfl | assumption | (simp only [*]; done)) (by first | exact hf0 | exact rfl) ?_
  refine gp_call (kind := 1) (args := [.ref _, .int _, .int _]) (rest := _) dX5_tell_160 (Or.inr (Or.inl ⟨rfl, rfl⟩)) mk_5_113 (by decide) me_7 rfl rfl rfl rfl rfl (mm_rc_of (by first | rfl | assumption | (simp only [*]; done))) (ok_X1_setTerm _ J L 21 isF_21 _ _) rfl ?_
  refine gp_vret dX5_tell_163 rfl ?_
  (have e : x_term J 21 (7 - 4) (f 0) = mm_u J (21 + 3) 3 (f 0) := x_term_21 (k := 3) (by decide); exact pX.mk rfl (by rw [e]; exact ⟨hF.tm (w := 3) (f 0) (by decide), fun a ha => mm_u_k _ _ _ (by omega)⟩))

theorem ct_tell5 (d : Nat) (v : vN V N S) (hF : rF 21 J V) (hw : w < 8) (hfu : ¬ y_fu V w) (hf : nOf V w f) (hj : ∀ j, j < y_cn w → J 66 j = f j) : cP (d + 3) 40 [.ref 65, .ref 21, .int (nI w)] (mm_sh, mm_R, J, L) (pX none L (tlX V w f J)) := by
  have zqw : w = 0 ∨ w = 1 ∨ w = 2 ∨ w = 3 ∨ w = 4 ∨ w = 5 ∨ w = 6 ∨ w = 7 := by omega
  rcases zqw with rfl | rfl | rfl | rfl | rfl | rfl | rfl | rfl
  · exact tl5_0 d v hF hfu hf hj
  · exact tl5_1 d v hF hfu hf hj
  · exact tl5_2 d v hF hfu hf hj
  · exact tl5_3 d v hF hfu hf hj
  · exact tl5_4 d v hF hfu hf hj
  · exact tl5_5 d v hF hfu hf hj
  · exact tl5_6 d v hF hfu hf hj
  · exact tl5_7 d v hF hfu hf hj
end P98vb
