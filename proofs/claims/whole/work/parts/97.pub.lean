/-! PUBLIC METHODS: race, summer: the starts in the class -/
section P97
variable {I C J : pI} {L : pL} {N S : Nat}

theorem rwI.time {c i : Nat} {ρ : mRow} {s : rS} {x : Int32} (h : rwI I c i ρ s x) : r_time ρ = x := by
  obtain ⟨h1, h2, h3, h4, h5, h6, h7, h8, h9, h10, h11⟩ := h
  by_cases z : I 108 2 ≤ s.1
  · exact h11 z
  · have e9 : ρ 9 = s.1 := congrArg (fun q : rS => q.1) h1
    unfold r_time
    rw [e9, h4, if_pos (Int32.not_le.mp z), (h10 z).2]
/-- the class's field now is the reference's, but for the trophies -/
def cF (I : pI) (N S : Nat) (M : pI) : Prop := M 1 1 = nI N ∧ M 1 3 = nI S ∧ M 1 5 = I 108 6 ∧ (∀ w, w < 4 → M 4 w = I 108 (2 + w)) ∧ (∀ c, c < 8 → ∀ j, j < 5 → M (5 + c) j = I (110 + j) c) ∧ ∀ k, k < 8 → ∀ j, j < 2 → M (13 + k) j = I (116 + j) k
def y_s0 (I : pI) (c : Nat) : rS := (I 114 c, I 108 5, 0)
def y_i0 (I : pI) (c : Nat) : Int32 := if I 108 2 ≤ I 114 c then y_ro I c 0 else 999
theorem rb_g (v : vN I N S) {X : pI} {r c : Nat} (hc : c < 8) (h1 : X 1 3 = nI S) (h4 : ∀ w, w < 4 → X 4 w = I 108 (2 + w)) (hss : ∀ k, k < 8 → ∀ j, j < 2 → X (13 + k) j = I (116 + j) k) (t : ∀ j, j < 5 → X (r + 1) j = I (110 + j) c) (t1 : X r 1 = 0) (t2 : X r 2 = I 108 6) : rwI I c 0 (r_b X r 1) (y_s0 I c) (y_i0 I c) := by
  obtain ⟨hN, hS, vN0, vS0, v2, v3, v4, v5, vr, vc, vs⟩ := id v
  have hk := v.k hc
  have e0 := t 0 (by omega)
  have e1 := t 1 (by omega)
  have e2 := t 2 (by omega)
  have e3 := t 3 (by omega)
  have e4 := t 4 (by omega)
  rw [Nat.add_zero] at e0
  have e40 := h4 0 (by omega)
  have e41 := h4 1 (by omega)
  have e42 := h4 2 (by omega)
  have e43 := h4 3 (by omega)
  have hkd := isKd_wi hk.1
  have hsl : x_slack X 1 (X (r + 1)) (X r 1) = q_sl I (I 113 c) (I 112 c) 0 ∧ x_holes X 1 (X (r + 1)) = q_ho I (I 113 c) := by
    unfold x_slack x_holes q_sl q_ho
    rw [h1, ← vS0, e3, e2, t1]
    by_cases z : I 108 1 = 0
    · have q : ¬ (0 ≤ I 113 c ∧ I 113 c < I 108 1) := by
        rintro ⟨a, b⟩
        rw [z, ti_lt, ti_0] at b
        rw [ti_le, ti_0] at a
        omega
      rw [if_neg q, if_pos z, if_neg q, if_pos z]
      exact ⟨by decide, rfl⟩
    · by_cases q : 0 ≤ I 113 c ∧ I 113 c < I 108 1
      · rw [if_pos q, if_neg z, if_pos q, if_neg z]
        have h8 : (I 113 c).toNatClampNeg < 8 := by
          have := cl_ti q.1 (by rw [← vS0]; exact q.2) (by omega)
          omega
        have s0 := hss _ h8 0 (by omega)
        have s1 := hss _ h8 1 (by omega)
        rw [show (1 + 12 + (I 113 c).toNatClampNeg) = 13 + (I 113 c).toNatClampNeg by omega, s0, s1, i_abs_ab]
        exact ⟨rfl, rfl⟩
      · exfalso
        refine q ?_
        rcases hk.2.2.2.1 with w | w
        · rw [w]
          refine ⟨Int32.le_refl _, ?_⟩
          have hp : ¬ S = 0 := fun y => z (by rw [vS0, y]; rfl)
          rw [vS0]
          exact nI_lt (a := 0) (b := S) (by omega) (by omega)
        · rw [vS0]; exact w
  obtain ⟨s1, s2⟩ := hsl
  have f2 : r_b X r 1 2 = I 108 6 := by rw [← t2]; simp [r_b, r_begin, upd]
  have f3 : r_b X r 1 3 = I 108 2 := by simp [r_b, r_begin, upd, e40]
  have f4 : r_b X r 1 4 = I 108 3 := by simp [r_b, r_begin, upd, e41]
  have f5 : r_b X r 1 5 = m_ro (I 108 4) (I 112 c) := by
    rw [← ro_h v4 hk.2.2.1]; simp [r_b, r_begin, upd, e42, e2]
  have f6 : r_b X r 1 6 = q_st I c := by
    unfold q_st
    rw [← s1, ← e0, ← e1, ← e2]; simp [r_b, r_begin, upd]
  have f7 : r_b X r 1 7 = k_puff (I 110 c) := by rw [← e0]; simp [r_b, r_begin, upd]
  have f8 : r_b X r 1 8 = q_ri I c := by
    unfold q_ri
    rw [← s1, ← s2]
    have : r_b X r 1 8 = x_risk (X (r + 1)) (x_slack X 1 (X (r + 1)) (X r 1)) (x_holes X 1 (X (r + 1))) := by simp [r_b, r_begin, upd]
    rw [this]
    unfold x_risk q_rk
    rw [e0, e1, e2]
    by_cases z : s_under 7 (I 110 c) 4 = 0
    · rw [if_pos z, if_neg ((under4 hkd).mp z)]
    · rw [if_neg z, if_pos (Classical.byContradiction fun q => z ((under4 hkd).mpr q))]
  have f9 : r_b X r 1 9 = I 114 c := by rw [← e4]; simp [r_b, r_begin, upd]
  have f10 : r_b X r 1 10 = I 108 5 := by rw [show I 108 5 = X 4 3 from e43.symm]; simp [r_b, r_begin, upd]
  have f12 : r_b X r 1 12 = 0 := by simp [r_b, r_begin, upd]
  have f15 : r_b X r 1 15 = 0 := by simp [r_b, r_begin, upd]
  refine ⟨by unfold r3 y_s0; rw [f9, f10, f12], by rw [f10]; exact v5, f2, f3, f4, f5, f6, f7, f8, fun q => ⟨f15, if_neg q⟩, fun q => ?_⟩
  have q' : I 108 2 ≤ I 114 c := q
  unfold r_time y_i0 y_ro
  rw [f9, f3, if_neg (Int32.not_lt.mpr q'), min999, f15, f5, if_pos q']
  rfl
theorem x_take_g (M : pI) (r : Nat) (c : Int32) : (∀ j, j < 5 → x_take M r 1 c (r + 1) j = M (5 + c.toNatClampNeg) j) ∧ x_take M r 1 c r 1 = 0 ∧ x_take M r 1 c r 2 = M 1 5 := by
  refine ⟨fun j hj => ?_, ?_, ?_⟩
  · unfold x_take
    rw [sr_other _ _ (by omega), sr_same]
    have : j = 0 ∨ j = 1 ∨ j = 2 ∨ j = 3 ∨ j = 4 := by omega
    rcases this with rfl | rfl | rfl | rfl | rfl
    · exact c_become_0 _ _
    · exact c_become_1 _ _
    · exact c_become_2 _ _
    · exact c_become_3 _ _
    · exact c_become_4 _ _
  · unfold x_take; rw [sr_same, up_o _ _ (by decide), up_s]
  · unfold x_take; rw [sr_same, up_s]
theorem x_rb_r (v : vN I N S) {M : pI} (hM : cF I N S M) (n : Nat) : n ≤ 8 → (∀ c, c < n → rwI I c 0 (x_rb M n (92 + 2 * c)) (y_s0 I c) (y_i0 I c)) := by
  induction n with
  | zero => intro _ c hc; exact absurd hc (Nat.not_lt_zero c)
  | succ n ih =>
    intro hn c hc
    have e : x_rb M (n + 1) = x_rbS (x_rb M n) (92 + 2 * n) (nI n) := by rw [x_rb, nI_clamp (by omega)]
    have lo : ∀ k, k < 92 → x_take (x_rb M n) (92 + 2 * n) 1 (nI n) k = M k := fun k hk => by rw [x_take_k _ _ (by omega) (by omega), x_rb_o M n hk]
    obtain ⟨m1, m2, m3, m4, m5, m6⟩ := hM
    rw [e]
    unfold x_rbS
    by_cases y : c = n
    · rw [y, sr_same]
      obtain ⟨t1, t2, t3⟩ := x_take_g (x_rb M n) (92 + 2 * n) (nI n)
      refine rb_g v (by omega) (by rw [lo 1 (by omega)]; exact m2) (fun w hw => by rw [lo 4 (by omega)]; exact m4 w hw) (fun k hk j hj => by rw [lo _ (by omega)]; exact m6 k hk j hj) (fun j hj => ?_) t2 (by rw [t3, x_rb_o M n (by omega)]; exact m3)
      rw [t1 j hj, nI_clamp (by omega), x_rb_o M n (by omega)]
      exact m5 n (by omega) j hj
    · rw [sr_other _ _ (by omega), x_take_k _ _ (by omega) (by omega)]
      exact ih (by omega) c (by omega)
end P97
