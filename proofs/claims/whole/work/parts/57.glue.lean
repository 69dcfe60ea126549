/-! LAYER B: glue for the public methods -/
section GLU
variable {I C J : pI} {L : pL} {N S : Nat}
theorem shR2 : ∀ c, c < 8 → mm_R 2 c = some (5 + c) ∧ mm_sh[5 + c]? = some (0, 0) ∧ mm_R 3 c = some (13 + c) ∧ mm_sh[13 + c]? = some (6, 0) := by decide
theorem bR.cc (hb : bR I N S) (hs : sc I J) {c : Int32} (hc : 0 ≤ c ∧ c < nI N) : mm_in c 8 = true ∧ mm_R 2 c.toNatClampNeg = some (5 + c.toNatClampNeg) ∧ mm_sh[5 + c.toNatClampNeg]? = some (0, 0) ∧ (∀ j, j < 6 → J (5 + c.toNatClampNeg) j = I (110 + j) c.toNatClampNeg) := by
  have h8 := (hb.cl hc).2.1
  exact ⟨hb.1.in8 hc, (shR2 _ h8).1, (shR2 _ h8).2.1, fun j hj => hb.c hs h8 hj⟩
theorem bR.kk (hb : bR I N S) (hs : sc I J) {k : Int32} (hc : 0 ≤ k ∧ k < nI S) : mm_in k 8 = true ∧ mm_R 3 k.toNatClampNeg = some (13 + k.toNatClampNeg) ∧ mm_sh[13 + k.toNatClampNeg]? = some (6, 0) ∧ J (13 + k.toNatClampNeg) 0 = I 116 k.toNatClampNeg ∧ J (13 + k.toNatClampNeg) 1 = I 117 k.toNatClampNeg ∧ k.toNatClampNeg < 8 := by
  have h8 := mm_in_lt (hb.1.sk8 hc)
  exact ⟨hb.1.sk8 hc, (shR2 _ h8).2.2.1, (shR2 _ h8).2.2.2, hb.s hs h8 (j := 0) (by omega), hb.s hs h8 (j := 1) (by omega), h8⟩
theorem sh_s {s : Int32} (h : 0 ≤ s ∧ s < 8) : mm_in s 8 = true ∧ mm_R 61 s.toNatClampNeg = some (76 + 2 * s.toNatClampNeg) ∧ isSh (76 + 2 * s.toNatClampNeg) ∧ mm_sh[76 + 2 * s.toNatClampNeg]? = some (7, 0) ∧ s.toNatClampNeg < 8 := by
  have h1 := mm_in_8.mpr h
  have h8 := mm_in_lt h1
  exact ⟨h1, (isSh_c _ h8).2, (isSh_c _ h8).1, (isSh_c _ h8).1.1, h8⟩
/-- what a begun racer's row shows -/
theorem rb_q (hb : bR I N S) (hs : sc I J) {X : pI} (hX : ∀ k, k ≠ 62 → k ≠ 63 → X k = J k)
    (hk : wi (X 63 0) 0 6) (hl : wi (X 63 2) 0 9) (hw : I 108 1 = 0 ∨ (0 ≤ X 63 3 ∧ X 63 3 < I 108 1)) (hm : I 108 1 = 0 → X 62 1 = 0) :
    r_b X 62 1 2 = X 62 2 ∧ r_b X 62 1 3 = I 108 2 ∧ r_b X 62 1 4 = I 108 3 ∧ r_b X 62 1 5 = m_ro (I 108 4) (X 63 2) ∧ r_b X 62 1 6 = k_stride (X 63 0) (X 63 1) (X 63 2) (q_sl I (X 63 3) (X 63 2) (X 62 1)) ∧ r_b X 62 1 7 = k_puff (X 63 0) ∧ r_b X 62 1 8 = q_rk (X 63 0) (X 63 1) (X 63 2) (q_sl I (X 63 3) (X 63 2) (X 62 1)) (q_ho I (X 63 3)) ∧ r_t (r_b X 62 1) = h_0 (X 63 4) (I 108 5) ∧ r_b X 62 1 15 = 0 ∧ r_b X 62 1 14 = -1 := by
  obtain ⟨hN, hS, vN0, vS0, v2, v3, v4, v5, -⟩ := hb.1
  have h4 : ∀ w, w < 4 → X 4 w = I 108 (2 + w) := fun w hw => by rw [hX 4 (by decide) (by decide)]; exact hb.w hs hw
  have h1 : X 1 3 = I 108 1 := by rw [hX 1 (by decide) (by decide), hb.c13 hs, vS0]
  have hss : ∀ k, k < 8 → ∀ j, j < 2 → X (13 + k) j = I (116 + j) k := fun k hk j hj => by rw [hX _ (by omega) (by omega)]; exact hb.s hs hk hj
  have hkd := isKd_wi hk
  have e40 := h4 0 (by omega)
  have e41 := h4 1 (by omega)
  have e42 := h4 2 (by omega)
  have e43 := h4 3 (by omega)
  have hsl : x_slack X 1 (X 63) (X 62 1) = q_sl I (X 63 3) (X 63 2) (X 62 1) ∧ x_holes X 1 (X 63) = q_ho I (X 63 3) := by
    unfold x_slack x_holes q_sl q_ho
    rw [h1]
    by_cases z : I 108 1 = 0
    · have q : ¬ (0 ≤ X 63 3 ∧ X 63 3 < I 108 1) := by
        rintro ⟨a, b⟩
        rw [z, ti_lt, ti_0] at b
        rw [ti_le, ti_0] at a
        omega
      rw [if_neg q, if_pos z, if_neg q, if_pos z, hm z]
      exact ⟨by decide, rfl⟩
    · have q : 0 ≤ X 63 3 ∧ X 63 3 < I 108 1 := by
        rcases hw with hw | hw
        · exact absurd hw z
        · exact hw
      rw [if_pos q, if_neg z, if_pos q, if_neg z]
      have hc : (X 63 3).toNatClampNeg < 8 := by
        have := cl_ti q.1 (by rw [← vS0]; exact q.2) (by omega)
        omega
      have s0 := hss _ hc 0 (by omega)
      have s1 := hss _ hc 1 (by omega)
      rw [show (1 + 12 + (X 63 3).toNatClampNeg) = 13 + (X 63 3).toNatClampNeg by omega, s0, s1, i_abs_ab]
      exact ⟨rfl, rfl⟩
  refine ⟨by simp [r_b, r_begin, upd], by simp [r_b, r_begin, upd, e40], by simp [r_b, r_begin, upd, e41], ?_, ?_, by simp [r_b, r_begin, upd], ?_, ?_, by simp [r_b, r_begin, upd], by simp [r_b, r_begin, upd]⟩
  · rw [← ro_h v4 hl]; simp [r_b, r_begin, upd, e42]
  · rw [← hsl.1]; simp [r_b, r_begin, upd]
  · rw [← hsl.1, ← hsl.2]
    have : r_b X 62 1 8 = x_risk (X 63) (x_slack X 1 (X 63) (X 62 1)) (x_holes X 1 (X 63)) := by simp [r_b, r_begin, upd]
    rw [this]
    unfold x_risk q_rk
    by_cases z : s_under 7 (X 63 0) 4 = 0
    · rw [if_pos z, if_neg ((under4 hkd).mp z)]
    · rw [if_neg z, if_pos (Classical.byContradiction fun q => z ((under4 hkd).mpr q))]
  · simp [r_t, r_b, r_begin, upd, h_0, e43]
/-- stride and risk of a child as he is -/
def q_st (I : pI) (c : Nat) : Int32 := k_stride (I 110 c) (I 111 c) (I 112 c) (q_sl I (I 113 c) (I 112 c) 0)
def q_ri (I : pI) (c : Nat) : Int32 := q_rk (I 110 c) (I 111 c) (I 112 c) (q_sl I (I 113 c) (I 112 c) 0) (q_ho I (I 113 c))
def bgn (I : pI) (c : Nat) (K : pI) : Prop := sc I K ∧ (∀ j, j < 6 → K 63 j = I (110 + j) c) ∧ K 62 2 = I 108 6 ∧ K 62 3 = I 108 2 ∧ K 62 4 = I 108 3 ∧ K 62 6 = q_st I c ∧ K 62 7 = k_puff (I 110 c) ∧ K 62 8 = q_ri I c ∧ r_t (K 62) = h_0 (I 114 c) (I 108 5) ∧ K 62 14 = -1 ∧ K 62 15 = 0 ∧ K 62 5 = m_ro (I 108 4) (I 112 c)
theorem ct_begin (d : Nat) (L : pL) (hb : bR I N S) (hs : sc I J) {c : Int32} (hc : 0 ≤ c ∧ c < nI N) : cP (d + 3) 23 [.ref 62, .ref 1] (mm_sh, mm_R, x_take J 62 1 c, L) (pX none L (bgn I c.toNatClampNeg)) := by
  obtain ⟨t1, t2, t3⟩ := tk_c hb hs hc
  have h8 := (hb.cl hc).2.1
  have hk := hb.k h8
  have k0 : isKd (x_take J 62 1 c 63 0) := by rw [t1 0 (by omega)]; exact isKd_wi hk.1
  obtain ⟨b2, b3, b4, b5, b6, b7, b8, b9, b10, b11⟩ := rb_q (X := x_take J 62 1 c) hb hs (fun k a b => x_take_o J c a b) (by rw [t1 0 (by omega)]; exact hk.1) (by rw [t1 2 (by omega)]; exact hk.2.2.1) (by rw [t1 3 (by omega)]; exact hb.sk h8) (fun _ => t2)
  rw [t2] at b6 b8
  rw [t1 0 (by omega), t1 1 (by omega), t1 2 (by omega), t1 3 (by omega)] at b6 b8
  rw [t1 0 (by omega)] at b7
  rw [t1 2 (by omega)] at b5
  rw [t1 4 (by omega)] at b9
  refine cP.of_x (ok_X4_begin d (x_take J 62 1 c) L 62 1 isRa_62 isF_1 (by decide) k0 (by rw [x_take_o _ _ (by decide) (by decide), hb.c13 hs]; exact nI_le (b := 8) hb.n.2.1 (by omega))) rfl ⟨?_, fun j hj => ?_, ?_⟩
  · refine hs.e62 fun k a b => ?_
    rw [sr_other _ _ a, x_take_o _ _ a b]
  · rw [sr_other _ _ (by decide)]; exact t1 j hj
  · rw [sr_same]
    exact ⟨b2.trans t3, b3, b4, b6, b7, b8, b9, b11, b10, b5⟩
/-- updates, or a refusal -/
def uC (w : Int32) (U I : pI) : pI := if w = 0 then U else rI I w
def uM (w : Int32) (U I : pI) : pI := if w = 0 then U else rM I w
def lL (w : Int32) (K L : pL) : pL := if w = 0 then K else L
theorem uNo {I : pI} {L K : pL} {U : pI} {w q n : Int32} (hw : w = n) (h : isW n) : pX (some (.int (vq w q))) (lL w K L) (sc (uC w U I)) (some (.int n)) (mm_sh, mm_R, x_ref I n, L) := by
  subst hw
  unfold lL uC
  rw [if_neg h.ne, if_neg h.ne]
  exact cNo rfl h
theorem uOk {I J : pI} {L : pL} {U : pI} {w q n : Int32} {K : pL} (hw : w = 0) (hq : q = n) (h : sc U J) : pX (some (.int (vq w q))) (lL w K L) (sc (uC w U I)) (some (.int n)) (mm_sh, mm_R, J, K) := by
  subst hw
  subst hq
  exact pX.mk rfl h
theorem uMo {I C J : pI} {L K : pL} {U : pI} {w q n : Int32} (hw : w = n) (h : isW n) (hs : mR I C J) : pX (some (.int (vq w q))) (lL w K L) (mR (uM w U I) C) (some (.int n)) (mm_sh, mm_R, x_inc J 109 (-n), L) := by
  subst hw
  unfold lL uM
  rw [if_neg h.ne, if_neg h.ne]
  exact mNo rfl h hs
theorem uMk {I C J : pI} {L K : pL} {U : pI} {w q n : Int32} (hw : w = 0) (hq : q = n) (hs : mR U C J) : pX (some (.int (vq w q))) (lL w K L) (mR (uM w U I) C) (some (.int n)) (mm_sh, mm_R, J, K) := by
  subst hw
  subst hq
  exact pX.mk rfl hs
theorem eqc_u {mi mi' : Nat} {as : List Value} (h : ∀ I L, RR I L → ∃ (q w : Int32) (U1 U2 : pI) (f1 f2 : pL → pL), (w = 0 ∨ isW w) ∧ (w = 0 → ∀ k, 108 ≤ k → U1 k = I k) ∧ cP 40 mi (.ref 0 :: as) (mm_sh, mm_R, I, L) (pX (some (.int (vq w q))) (lL w (f1 L) L) (sc (uC w U1 I))) ∧ (∀ C J K, mR I C J → cP 40 mi' (.ref 108 :: as) (mm_sh, mm_R, J, K) (pX (some (.int (vq w q))) (lL w (f2 K) K) (mR (uM w U2 I) C))) ∧ (w = 0 → RR (mg U1 U2) (f2 (f1 L)))) : eqc mi mi' as := by
  refine eqc_of fun I L hR => ?_
  obtain ⟨q, w, U1, U2, f1, f2, hw, hU, h1, h2, h3⟩ := h I L hR
  rcases hw with rfl | hw
  · exact ⟨_, f1 L, U1, U2, f2 (f1 L), h1, hU rfl, fun C J hs => h2 C J (f1 L) hs, h3 rfl⟩
  · have e1 : lL w (f1 L) L = L := if_neg hw.ne
    have e2 : lL w (f2 L) L = L := if_neg hw.ne
    have e3 : uC w U1 I = rI I w := if_neg hw.ne
    have e4 : uM w U2 I = rM I w := if_neg hw.ne
    rw [e1, e3] at h1
    refine ⟨_, L, rI I w, rM I w, L, h1, fun k hk => rI_o I w (by omega), fun C J hs => ?_, hR.no w (Or.inr hw)⟩
    have := h2 C J L hs
    rw [e2, e4] at this
    exact this
/-- a new field now, all else as it was -/
theorem RR.now {N1 S1 : Nat} (h : RR I L) (hb : bR J N1 S1) (hm : I 108 0 ≤ J 108 0) (z : ∀ k, ¬ (1 ≤ k ∧ k ≤ 20) → k ≠ 108 → ¬ (110 ≤ k ∧ k ≤ 117) → J k = I k) (z9 : J 108 9 = I 108 9) (z57 : J 108 57 = I 108 57) (z58 : J 108 58 = I 108 58) : RR J L := by
  obtain ⟨N, S, -, hS, hL, hK, hT, hW, hE⟩ := h
  have e : ∀ k, ¬ (1 ≤ k ∧ k ≤ 20) → k ≠ 108 → ¬ (110 ≤ k ∧ k ≤ 117) → ∀ j, J k j = I k j := fun k a b c j => by rw [z k a b c]
  refine ⟨N1, S1, hb, fun s hs => ?_, hL, hK.cg (e _ (by omega) (by omega) (by omega) _) z58 (fun k a b j => e k (by omega) (by omega) (by omega) j) (fun j => e _ (by omega) (by omega) (by omega) j), hT.cg (e _ (by omega) (by omega) (by omega) _) z57 (fun j => e _ (by omega) (by omega) (by omega) j) (fun j => e _ (by omega) (by omega) (by omega) j), hW.cg (fun j => e _ (by omega) (by omega) (by omega) j) (fun j => e _ (by omega) (by omega) (by omega) j), hE.cg (e _ (by omega) (by omega) (by omega) _) z9 (fun j => e _ (by omega) (by omega) (by omega) j) (fun j => e _ (by omega) (by omega) (by omega) j)⟩
  have q := hS s hs
  unfold rSh at q ⊢
  rw [e (76 + 2 * s) (by omega) (by omega) (by omega), e (76 + 2 * s) (by omega) (by omega) (by omega), e 118 (by omega) (by omega) (by omega), e 119 (by omega) (by omega) (by omega), e 120 (by omega) (by omega) (by omega), e 121 (by omega) (by omega) (by omega)]
  rcases q with q | q | ⟨q1, q2, q3, q4, q5⟩
  · exact Or.inl q
  · exact Or.inr (Or.inl q)
  · exact Or.inr (Or.inr ⟨q1, q2, q3, q4, Int32.lt_of_lt_of_le q5 hm⟩)
end GLU
