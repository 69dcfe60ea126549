/-! LAYER B: the relation between the class (now at cell 1) and the reference (cell 108), in pieces -/
def i_ab (x : Int32) : Int32 := if x < 0 then -x else x
def q_sl (I : pI) (k l mo : Int32) : Int32 := (if I 108 1 = 0 then 0 else i_ab (I 116 k.toNatClampNeg - l)) + mo
def q_ho (I : pI) (k : Int32) : Int32 := if I 108 1 = 0 then 0 else I 117 k.toNatClampNeg
def q_rk (κ a l s h : Int32) : Int32 := if κ = 4 ∨ κ = 6 then (5 * s + 3 * h + k_stride κ a l s) / 2 else 5 * s + 3 * h + k_stride κ a l s
/-- the time of one of kind κ, a, legs l in sack k, ahead ah, rolling rl, slack mo more -/
def tq (I : pI) (κ a l k ah rl mo : Int32) : Int32 :=
  h_in rl (I 108 3) (k_stride κ a l (q_sl I k l mo)) (k_puff κ) (q_rk κ a l (q_sl I k l mo) (q_ho I k)) (I 108 2) (m_ro (I 108 4) l) ah (I 108 5)
theorem tq_sc {I J : pI} (h : sc I J) : tq J = tq I := by
  funext κ a l k ah rl mo
  unfold tq q_sl q_ho
  rw [h 108 1 rfl, h 108 2 rfl, h 108 3 rfl, h 108 4 rfl, h 108 5 rfl, h 116 _ rfl, h 117 _ rfl]
/-- the reference's field is one that may be: N children, S sacks -/
def vN (I : pI) (N S : Nat) : Prop := N ≤ 8 ∧ S ≤ 8 ∧ I 108 0 = nI N ∧ I 108 1 = nI S ∧ wi (I 108 2) 1 200 ∧ wi (I 108 3) 1 20 ∧ wi (I 108 4) 0 9 ∧ wi (I 108 5) 0 60 ∧ (I 108 6 = 0 ∨ I 108 6 = 1) ∧
  (∀ c, c < 8 → wi (I 110 c) 0 6 ∧ wi (I 111 c) 0 9 ∧ wi (I 112 c) 0 9 ∧ (I 113 c = 0 ∨ (0 ≤ I 113 c ∧ I 113 c < nI S)) ∧ wi (I 114 c) 0 99) ∧ (∀ k, k < 8 → wi (I 116 k) 0 9 ∧ wi (I 117 k) 0 9)
/-- the field of the class at cell f is the reference's as V shows it -/
def rF (f : Nat) (I V : pI) : Prop := I f 1 = V 108 0 ∧ I f 3 = V 108 1 ∧ I f 5 = V 108 6 ∧ I f 6 = V 108 7 ∧ I f 7 = V 108 8 ∧ (∀ w, w < 4 → I (f + 3) w = V 108 (2 + w)) ∧ (∀ c, c < 8 → ∀ j, j < 6 → I (f + 4 + c) j = V (110 + j) c) ∧ (∀ k, k < 8 → ∀ j, j < 2 → I (f + 12 + k) j = V (116 + j) k)
def bR (I : pI) (N S : Nat) : Prop := vN I N S ∧ rF 1 I I
theorem isKd_wi {x : Int32} (h : wi x 0 6) : isKd x := by
  obtain ⟨h0, h6⟩ := h
  have : x.toInt = 0 ∨ x.toInt = 1 ∨ x.toInt = 2 ∨ x.toInt = 3 ∨ x.toInt = 4 ∨ x.toInt = 5 ∨ x.toInt = 6 := by omega
  rcases this with h | h | h | h | h | h | h
  · exact Or.inl (ti_eq.mpr h)
  · exact Or.inr (Or.inl (ti_eq.mpr h))
  · exact Or.inr (Or.inr (Or.inl (ti_eq.mpr h)))
  · exact Or.inr (Or.inr (Or.inr (Or.inl (ti_eq.mpr h))))
  · exact Or.inr (Or.inr (Or.inr (Or.inr (Or.inl (ti_eq.mpr h)))))
  · exact Or.inr (Or.inr (Or.inr (Or.inr (Or.inr (Or.inl (ti_eq.mpr h))))))
  · exact Or.inr (Or.inr (Or.inr (Or.inr (Or.inr (Or.inr (ti_eq.mpr h))))))
theorem wi_isKd {x : Int32} (h : isKd x) : wi x 0 6 := by
  rcases h with rfl | rfl | rfl | rfl | rfl | rfl | rfl <;> exact ⟨by decide, by decide⟩
theorem puff_wi {κ : Int32} (h : isKd κ) : wi (k_puff κ) 0 5 := by
  rcases h with rfl | rfl | rfl | rfl | rfl | rfl | rfl <;> exact ⟨by decide, by decide⟩
theorem under4 {κ : Int32} (h : isKd κ) : s_under 7 κ 4 = 0 ↔ ¬ (κ = 4 ∨ κ = 6) := by
  rcases h with rfl | rfl | rfl | rfl | rfl | rfl | rfl <;> decide
theorem i_abs_ab (x : Int32) : i_abs x = i_ab x := by
  unfold i_abs i_ab
  by_cases h : 0 ≤ x
  · rw [if_pos h, if_neg (Int32.not_lt.mpr h)]
  · rw [if_neg h, if_pos (Int32.not_le.mp h), Int32.zero_sub]
theorem ro_h {rp l : Int32} (h : wi rp 0 9) (h2 : wi l 0 9) : (if 0 < rp - l then rp - l else 0) = m_ro rp l := by
  have hs : (rp - l).toInt = rp.toInt - l.toInt := ti_sub (by have := h.1; have := h2.2; omega) (by have := h.2; have := h2.1; omega)
  unfold m_ro
  by_cases z : l < rp
  · rw [if_pos z, if_pos (by rw [ti_lt, hs, ti_0]; rw [ti_lt] at z; omega)]
  · rw [if_neg z, if_neg (by rw [ti_lt, hs, ti_0]; rw [ti_lt] at z; omega)]
theorem nI_0f {S : Nat} (h : S ≤ 8) : nI S = 0 ↔ S = 0 := by
  rw [← nI_0, nI_eq (by omega) (by omega)]
theorem ti_nI {n : Nat} (h : n ≤ 2000) : (nI n).toInt = n := nI_toInt (by omega)
theorem cl_ti {x : Int32} {n : Nat} (h : 0 ≤ x) (h2 : x < nI n) (hn : n ≤ 2000) : x.toNatClampNeg < n := by
  rw [ti_le, ti_0] at h
  rw [ti_lt, ti_nI hn] at h2
  unfold Int32.toNatClampNeg
  omega
theorem x_tim_q {I X : pI} {N S : Nat} (v : vN I N S) (h4 : ∀ w, w < 4 → X 4 w = I 108 (2 + w)) (h1 : X 1 3 = I 108 1) (hs : ∀ k, k < 8 → ∀ j, j < 2 → X (13 + k) j = I (116 + j) k)
    (hk : wi (X 63 0) 0 6) (hl : wi (X 63 2) 0 9) (hw : I 108 1 = 0 ∨ (0 ≤ X 63 3 ∧ X 63 3 < I 108 1)) (hm : I 108 1 = 0 → X 62 1 = 0) (hr : X 62 2 = 0 ∨ X 62 2 = 1) :
    x_tim X = tq I (X 63 0) (X 63 1) (X 63 2) (X 63 3) (X 63 4) (X 62 2) (X 62 1) := by
  obtain ⟨hN, hS, vN0, vS0, v2, v3, v4, v5, -⟩ := v
  have hkd := isKd_wi hk
  have e40 := h4 0 (by omega)
  have e41 := h4 1 (by omega)
  have e42 := h4 2 (by omega)
  have e43 := h4 3 (by omega)
  have hsl : x_slack X 1 (X 63) (X 62 1) = q_sl I (X 63 3) (X 63 2) (X 62 1) ∧ x_holes X 1 (X 63) = q_ho I (X 63 3) := by
    unfold x_slack x_holes q_sl q_ho
    rw [h1]
    by_cases z : I 108 1 = 0
    · have q : ¬ (0 ≤ X 63 3 ∧ X 63 3 < I 108 1) := by
        rintro ⟨a, b⟩
        rw [z, ti_lt, ti_0] at b
        rw [ti_le, ti_0] at a
        omega
      rw [if_neg q, if_pos z, if_neg q, if_pos z, hm z]
      exact ⟨by decide, rfl⟩
    · have q : 0 ≤ X 63 3 ∧ X 63 3 < I 108 1 := by
        rcases hw with hw | hw
        · exact absurd hw z
        · exact hw
      rw [if_pos q, if_neg z, if_pos q, if_neg z]
      have hc : (X 63 3).toNatClampNeg < 8 := by
        have := cl_ti q.1 (by rw [← vS0]; exact q.2) (by omega)
        omega
      have s0 := hs _ hc 0 (by omega)
      have s1 := hs _ hc 1 (by omega)
      rw [show (1 + 12 + (X 63 3).toNatClampNeg) = 13 + (X 63 3).toNatClampNeg by omega, s0, s1, i_abs_ab]
      exact ⟨rfl, rfl⟩
  have hb : x_ttr X 62 1 = r_go 999 (r_b X 62 1) := rfl
  have b2 : r_b X 62 1 2 = X 62 2 := by simp [r_b, r_begin, upd]
  have b3 : r_b X 62 1 3 = I 108 2 := by simp [r_b, r_begin, upd, e40]
  have b4 : r_b X 62 1 4 = I 108 3 := by simp [r_b, r_begin, upd, e41]
  have b5 : r_b X 62 1 5 = m_ro (I 108 4) (X 63 2) := by
    rw [← ro_h v4 hl]
    simp [r_b, r_begin, upd, e42]
  have b6 : r_b X 62 1 6 = k_stride (X 63 0) (X 63 1) (X 63 2) (q_sl I (X 63 3) (X 63 2) (X 62 1)) := by
    rw [← hsl.1]
    simp [r_b, r_begin, upd]
  have b7 : r_b X 62 1 7 = k_puff (X 63 0) := by simp [r_b, r_begin, upd]
  have b8 : r_b X 62 1 8 = q_rk (X 63 0) (X 63 1) (X 63 2) (q_sl I (X 63 3) (X 63 2) (X 62 1)) (q_ho I (X 63 3)) := by
    rw [← hsl.1, ← hsl.2]
    have : r_b X 62 1 8 = x_risk (X 63) (x_slack X 1 (X 63) (X 62 1)) (x_holes X 1 (X 63)) := by simp [r_b, r_begin, upd]
    rw [this]
    unfold x_risk q_rk
    by_cases z : s_under 7 (X 63 0) 4 = 0
    · rw [if_pos z, if_neg ((under4 hkd).mp z)]
    · rw [if_neg z, if_pos (Classical.byContradiction fun q => z ((under4 hkd).mpr q))]
  have b9 : r_b X 62 1 9 = X 63 4 := by simp [r_b, r_begin, upd]
  have b10 : r_b X 62 1 10 = I 108 5 := by simp [r_b, r_begin, upd, e43]
  have bt : r_t (r_b X 62 1) = h_0 (X 63 4) (I 108 5) := by
    unfold r_t
    rw [b9, b10]
    simp [r_b, r_begin, upd, h_0]
  unfold x_tim
  rw [hb, r_time_h (by rw [b10]; exact v5) (by rw [b7]; exact puff_wi hkd) (by rw [b2]; exact hr) (by rw [bt, b9, b10]) (by simp [r_b, r_begin, upd]), b2, b3, b4, b5, b6, b7, b8, b9, b10]
  rfl
