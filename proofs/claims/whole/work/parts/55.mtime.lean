/-! LAYER B: the reference's times are tq -/
section MTM
variable {I C J : pI} {N S : Nat}
theorem scr108 {j : Nat} (h : scr 108 j = false) : j < 10 ∨ j = 57 ∨ j = 58 := by
  by_cases q : j < 10 ∨ j = 57 ∨ j = 58
  · exact q
  · exfalso
    have e : scr 108 j = true := by
      have a : Nat.ble 10 j = true := Nat.ble_eq_true_of_le (by omega)
      have b : Nat.beq j 57 = false := by
        cases z : Nat.beq j 57 with
        | false => rfl
        | true => have := Nat.eq_of_beq_eq_true z; omega
      have c : Nat.beq j 58 = false := by
        cases z : Nat.beq j 58 with
        | false => rfl
        | true => have := Nat.eq_of_beq_eq_true z; omega
      unfold scr
      rw [a, b, c]
      rfl
    rw [e] at h
    cases h
theorem mR.r (h : mR I C J) {j : Nat} (hj : j < 10) : J 108 j = I 108 j := by
  have : j = 0 ∨ j = 1 ∨ j = 2 ∨ j = 3 ∨ j = 4 ∨ j = 5 ∨ j = 6 ∨ j = 7 ∨ j = 8 ∨ j = 9 := by omega
  rcases this with rfl | rfl | rfl | rfl | rfl | rfl | rfl | rfl | rfl | rfl <;> exact h.1 108 _ rfl
/-- a new row of scratch at 108 -/
theorem mR.row (h : mR I C J) {ρ : Nat → Int32} (z : ∀ j, j < 35 ∨ 46 < j → ρ j = J 108 j) : mR I C (sr J 108 ρ) := h.ro (by omega) (fun j hj => z j (by have := scr108 hj; omega))
theorem m_in_q {μ : mRow} {k mo : Int32} (h : ∀ j, j < 6 → μ j = I 108 j) (h38 : μ 38 = q_sl I k (μ 37) mo) (h39 : μ 39 = q_ho I k) : m_in μ = tq I (μ 35) (μ 36) (μ 37) k (μ 40) (μ 41) mo := by
  rw [m_in_h, h 2 (by omega), h 3 (by omega), h 4 (by omega), h 5 (by omega)]
  unfold tq m_stride m_puff m_risk m_stride q_rk
  rw [h38, h39]
theorem putsIn_q (hs : mR I C J) {μ : mRow} (h : ∀ j, j < 6 → μ j = I 108 j) (k : Int32) : (∀ j, j < 6 → m_putsIn μ (J 116) (J 117) k j = I 108 j) ∧ (∀ j, j ≠ 38 → j ≠ 39 → m_putsIn μ (J 116) (J 117) k j = μ j) ∧ m_putsIn μ (J 116) (J 117) k 38 = q_sl I k (μ 37) 0 ∧ m_putsIn μ (J 116) (J 117) k 39 = q_ho I k := by
  have e : ∀ j, j ≠ 38 → j ≠ 39 → m_putsIn μ (J 116) (J 117) k j = μ j := fun j a b => by
    unfold m_putsIn
    rw [up_o _ _ b, up_o _ _ a]
  refine ⟨fun j hj => by rw [e j (by omega) (by omega), h j hj], e, ?_, ?_⟩
  · unfold m_putsIn q_sl i_ab
    rw [up_o _ _ (by decide), up_s, h 1 (by omega), hs.1 116 _ rfl, Int32.add_zero]
  · unfold m_putsIn q_ho
    rw [up_s, up_o _ _ (by decide), h 1 (by omega), hs.1 117 _ rfl]
theorem puts_q (hs : mR I C J) (c : Int32) : (∀ j, j < 6 → m_puts J c j = I 108 j) ∧ m_puts J c 35 = I 110 c.toNatClampNeg ∧ m_puts J c 36 = I 111 c.toNatClampNeg ∧ m_puts J c 37 = I 112 c.toNatClampNeg ∧ m_puts J c 40 = I 114 c.toNatClampNeg ∧ m_puts J c 41 = I 108 6 ∧ m_puts J c 38 = q_sl I (I 113 c.toNatClampNeg) (I 112 c.toNatClampNeg) 0 ∧ m_puts J c 39 = q_ho I (I 113 c.toNatClampNeg) ∧ ∀ j, j < 35 ∨ 41 < j → m_puts J c j = J 108 j := by
  obtain ⟨a1, a2, a3, a4⟩ := putsIn_q (μ := upd (upd (upd (upd (upd (J 108) 35 (J 110 c.toNatClampNeg)) 36 (J 111 c.toNatClampNeg)) 37 (J 112 c.toNatClampNeg)) 40 (J 114 c.toNatClampNeg)) 41 (J 108 6)) hs (fun j hj => by
    rw [up_o _ _ (by omega), up_o _ _ (by omega), up_o _ _ (by omega), up_o _ _ (by omega), up_o _ _ (by omega), hs.r (by omega)]) (J 113 c.toNatClampNeg)
  have e : m_puts J c = m_putsIn (upd (upd (upd (upd (upd (J 108) 35 (J 110 c.toNatClampNeg)) 36 (J 111 c.toNatClampNeg)) 37 (J 112 c.toNatClampNeg)) 40 (J 114 c.toNatClampNeg)) 41 (J 108 6)) (J 116) (J 117) (J 113 c.toNatClampNeg) := rfl
  have e7 : upd (upd (upd (upd (upd (J 108) 35 (J 110 c.toNatClampNeg)) 36 (J 111 c.toNatClampNeg)) 37 (J 112 c.toNatClampNeg)) 40 (J 114 c.toNatClampNeg)) 41 (J 108 6) 37 = I 112 c.toNatClampNeg := by
    rw [up_o _ _ (by decide), up_o _ _ (by decide), up_s, hs.1 112 _ rfl]
  rw [← e] at a1 a2 a3 a4
  refine ⟨a1, ?_, ?_, ?_, ?_, ?_, ?_, ?_, fun j hj => ?_⟩
  · rw [a2 35 (by decide) (by decide), ← hs.1 110 _ rfl]; simp [upd]
  · rw [a2 36 (by decide) (by decide), ← hs.1 111 _ rfl]; simp [upd]
  · rw [a2 37 (by decide) (by decide), e7]
  · rw [a2 40 (by decide) (by decide), ← hs.1 114 _ rfl]; simp [upd]
  · rw [a2 41 (by decide) (by decide), ← hs.r (j := 6) (by omega)]; simp [upd]
  · rw [a3, e7, hs.1 113 _ rfl]
  · rw [a4, hs.1 113 _ rfl]
  · rw [a2 j (by omega) (by omega), up_o _ _ (by omega), up_o _ _ (by omega), up_o _ _ (by omega), up_o _ _ (by omega), up_o _ _ (by omega)]
theorem vN.k (v : vN I N S) {c : Nat} (h : c < 8) : wi (I 110 c) 0 6 ∧ wi (I 111 c) 0 9 ∧ wi (I 112 c) 0 9 ∧ (I 113 c = 0 ∨ (0 ≤ I 113 c ∧ I 113 c < nI S)) ∧ wi (I 114 c) 0 99 := v.2.2.2.2.2.2.2.2.2.1 c h
theorem vN.rl (v : vN I N S) : I 108 6 = 0 ∨ I 108 6 = 1 := v.2.2.2.2.2.2.2.2.1
theorem vN.cl (v : vN I N S) {c : Int32} (hc : 0 ≤ c ∧ c < nI N) : c.toNatClampNeg < N ∧ c.toNatClampNeg < 8 ∧ nI c.toNatClampNeg = c := by
  have h1 := cl_ti hc.1 hc.2 (by have := v.1; omega)
  exact ⟨h1, by have := v.1; omega, nI_cl hc.1⟩
theorem vN.in8 (v : vN I N S) {c : Int32} (hc : 0 ≤ c ∧ c < nI N) : mm_in c 8 = true := mm_in_8.mpr ⟨hc.1, Int32.lt_of_lt_of_le hc.2 (nI_le (b := 8) v.1 (by omega))⟩
theorem vN.sk8 (v : vN I N S) {s : Int32} (hc : 0 ≤ s ∧ s < nI S) : mm_in s 8 = true := mm_in_8.mpr ⟨hc.1, Int32.lt_of_lt_of_le hc.2 (nI_le (b := 8) v.2.1 (by omega))⟩
theorem vN.sin (v : vN I N S) (hs : mR I C J) {c : Int32} (hc : 0 ≤ c ∧ c < nI N) : J 108 1 = 0 ∨ mm_in (J 113 c.toNatClampNeg) 8 = true := by
  rw [hs.r (by omega), hs.1 113 _ rfl]
  rcases (v.k (v.cl hc).2.1).2.2.2.1 with q | q
  · exact Or.inr (by rw [q]; decide)
  · exact Or.inr (v.sk8 q)
theorem vN.kd (v : vN I N S) (hs : mR I C J) {c : Int32} (hc : 0 ≤ c ∧ c < nI N) : isKd (J 110 c.toNatClampNeg) := by
  rw [hs.1 110 _ rfl]
  exact isKd_wi (v.k (v.cl hc).2.1).1
theorem mR.inM (hs : mR I C J) {μ : mRow} (h : ∀ j, j < 35 ∨ 46 < j → μ j = J 108 j) : mR I C (sr J 108 (m_inM μ)) := hs.row (fun j hj => by rw [m_inM_o μ (by omega), h j hj])
theorem mt_inOf (d : Nat) (L : pL) (v : vN I N S) (hs : mR I C J) {c : Int32} (hc : 0 ≤ c ∧ c < nI N) : cP (d + 7) 180 [.ref 108, .int c] (mm_sh, mm_R, J, L) (pX (some (.int (tC I c.toNatClampNeg))) L (mR I C)) := by
  obtain ⟨a1, a2, a3, a4, a5, a6, a7, a8, a9⟩ := puts_q hs c
  refine cP.of_x (ok_X9_inOf d J L c (v.in8 hc) (v.sin hs hc) (v.kd hs hc)) ?_ (hs.inM fun j hj => a9 j (by omega))
  rw [m_in_q a1 (by rw [a4]; exact a7) a8, a2, a3, a4, a5, a6]
  rfl
theorem mt_inAs (d : Nat) (L : pL) (v : vN I N S) (hs : mR I C J) {c : Int32} (hc : 0 ≤ c ∧ c < nI N) {k : Int32} (hk : isKd k) : cP (d + 7) 182 [.ref 108, .int c, .int k] (mm_sh, mm_R, J, L) (pX (some (.int (tq I k (I 111 c.toNatClampNeg) (I 112 c.toNatClampNeg) (I 113 c.toNatClampNeg) (I 114 c.toNatClampNeg) (I 108 6) 0))) L (mR I C)) := by
  obtain ⟨a1, a2, a3, a4, a5, a6, a7, a8, a9⟩ := puts_q hs c
  refine cP.of_x (ok_X9_inAs d J L c (v.in8 hc) (v.sin hs hc) (v.kd hs hc) k hk) ?_ (hs.inM fun j hj => by rw [up_o _ _ (by omega), a9 j (by omega)])
  rw [m_in_q (I := I) (k := I 113 c.toNatClampNeg) (mo := 0) (fun j hj => by rw [up_o _ _ (by omega), a1 j hj]) (by rw [up_o _ _ (by decide), up_o _ _ (by decide), a4]; exact a7) (by rw [up_o _ _ (by decide)]; exact a8), up_s, up_o _ _ (by decide), up_o _ _ (by decide), up_o _ _ (by decide), up_o _ _ (by decide), a3, a4, a5, a6]
theorem mt_inFrom (d : Nat) (L : pL) (v : vN I N S) (hs : mR I C J) {c : Int32} (hc : 0 ≤ c ∧ c < nI N) (k : Int32) : cP (d + 7) 183 [.ref 108, .int c, .int k] (mm_sh, mm_R, J, L) (pX (some (.int (tq I (I 110 c.toNatClampNeg) (I 111 c.toNatClampNeg) (I 112 c.toNatClampNeg) (I 113 c.toNatClampNeg) k (I 108 6) 0))) L (mR I C)) := by
  obtain ⟨a1, a2, a3, a4, a5, a6, a7, a8, a9⟩ := puts_q hs c
  refine cP.of_x (ok_X9_inFrom d J L c (v.in8 hc) (v.sin hs hc) (v.kd hs hc) k) ?_ (hs.inM fun j hj => by rw [up_o _ _ (by omega), a9 j (by omega)])
  rw [m_in_q (I := I) (k := I 113 c.toNatClampNeg) (mo := 0) (fun j hj => by rw [up_o _ _ (by omega), a1 j hj]) (by rw [up_o _ _ (by decide), up_o _ _ (by decide), a4]; exact a7) (by rw [up_o _ _ (by decide)]; exact a8), up_s, up_o _ _ (by decide), up_o _ _ (by decide), up_o _ _ (by decide), up_o _ _ (by decide), a2, a3, a4, a6]
theorem mt_inRolling (d : Nat) (L : pL) (v : vN I N S) (hs : mR I C J) {c : Int32} (hc : 0 ≤ c ∧ c < nI N) (k : Int32) : cP (d + 7) 184 [.ref 108, .int c, .int k] (mm_sh, mm_R, J, L) (pX (some (.int (tq I (I 110 c.toNatClampNeg) (I 111 c.toNatClampNeg) (I 112 c.toNatClampNeg) (I 113 c.toNatClampNeg) (I 114 c.toNatClampNeg) k 0))) L (mR I C)) := by
  obtain ⟨a1, a2, a3, a4, a5, a6, a7, a8, a9⟩ := puts_q hs c
  refine cP.of_x (ok_X9_inRolling d J L c (v.in8 hc) (v.sin hs hc) (v.kd hs hc) k) ?_ (hs.inM fun j hj => by rw [up_o _ _ (by omega), a9 j (by omega)])
  rw [m_in_q (I := I) (k := I 113 c.toNatClampNeg) (mo := 0) (fun j hj => by rw [up_o _ _ (by omega), a1 j hj]) (by rw [up_o _ _ (by decide), up_o _ _ (by decide), a4]; exact a7) (by rw [up_o _ _ (by decide)]; exact a8), up_s, up_o _ _ (by decide), up_o _ _ (by decide), up_o _ _ (by decide), up_o _ _ (by decide), a2, a3, a4, a5]
theorem mt_inWith (d : Nat) (L : pL) (v : vN I N S) (hs : mR I C J) {c : Int32} (hc : 0 ≤ c ∧ c < nI N) {k : Int32} (hk : 0 ≤ k ∧ k < nI S) : cP (d + 7) 181 [.ref 108, .int c, .int k] (mm_sh, mm_R, J, L) (pX (some (.int (tq I (I 110 c.toNatClampNeg) (I 111 c.toNatClampNeg) (I 112 c.toNatClampNeg) k (I 114 c.toNatClampNeg) (I 108 6) 0))) L (mR I C)) := by
  obtain ⟨a1, a2, a3, a4, a5, a6, a7, a8, a9⟩ := puts_q hs c
  obtain ⟨b1, b2, b3, b4⟩ := putsIn_q hs a1 k
  refine cP.of_x (ok_X9_inWith d J L c (v.in8 hc) (v.sin hs hc) (v.kd hs hc) k (Or.inr (v.sk8 hk))) ?_ (hs.inM fun j hj => by rw [b2 j (by omega) (by omega), a9 j (by omega)])
  rw [m_in_q b1 (by rw [b2 37 (by decide) (by decide)]; exact b3) b4, b2 35 (by decide) (by decide), b2 36 (by decide) (by decide), b2 37 (by decide) (by decide), b2 40 (by decide) (by decide), b2 41 (by decide) (by decide), a2, a3, a4, a5, a6]
end MTM
