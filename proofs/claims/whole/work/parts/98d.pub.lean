/-! PUBLIC METHODS: race, summer: what the reference keeps -/
section P98d
variable {I C J K : pI} {L : pL} {N S : Nat}

def uI (I : pI) (r s : Int32) : pI := mm_u (mm_u I 108 7 r) 108 8 s
theorem uI_j (I : pI) (r s : Int32) {j : Nat} (h : j ≠ 7) (h2 : j ≠ 8) : uI I r s 108 j = I 108 j := by
  unfold uI; rw [mm_u_j _ _ h2, mm_u_j _ _ h]
theorem uI_8 (I : pI) (r s : Int32) : uI I r s 108 8 = s := mm_u_s _ _ _ _
theorem uI_k (I : pI) (r s : Int32) {k : Nat} (h : k ≠ 108) : uI I r s k = I k := by
  unfold uI; rw [mm_u_k _ _ _ h, mm_u_k _ _ _ h]
theorem uI_v (v : vN I N S) (r s : Int32) : vN (uI I r s) N S := by
  unfold vN at *
  simp only [uI_j I r s (j := 0) (by decide) (by decide), uI_j I r s (j := 1) (by decide) (by decide), uI_j I r s (j := 2) (by decide) (by decide), uI_j I r s (j := 3) (by decide) (by decide), uI_j I r s (j := 4) (by decide) (by decide), uI_j I r s (j := 5) (by decide) (by decide), uI_j I r s (j := 6) (by decide) (by decide), uI_k I r s (k := 110) (by decide), uI_k I r s (k := 111) (by decide), uI_k I r s (k := 112) (by decide), uI_k I r s (k := 113) (by decide), uI_k I r s (k := 114) (by decide), uI_k I r s (k := 116) (by decide), uI_k I r s (k := 117) (by decide)]
  exact v
theorem uI_q (r s : Int32) : q_sl (uI I r s) = q_sl I ∧ q_ho (uI I r s) = q_ho I := by
  refine ⟨?_, ?_⟩
  · funext a b c
    unfold q_sl
    rw [uI_j I r s (by decide) (by decide), uI_k I r s (k := 116) (by decide)]
  · funext a
    unfold q_ho
    rw [uI_j I r s (by decide) (by decide), uI_k I r s (k := 117) (by decide)]
/-- the reference's memory in a race -/
def rR (I : pI) (r : Int32) (C : pI) (N : Nat) (t : yT) (J : pI) : Prop := mR (uI I r t.2.2) C J ∧ ∀ c, c < N → J 133 c = (t.1 c).1 ∧ J 134 c = (t.1 c).2.1 ∧ J 135 c = (t.1 c).2.2 ∧ J 136 c = t.2.1 c
theorem mR.seed {r s s' : Int32} (hs : mR (uI I r s) C J) (h1 : ∀ k, k ≠ 108 → K k = J k) (h2 : K 108 8 = s') (h3 : ∀ j, j ≠ 8 → (j < 35 ∨ 46 < j) → K 108 j = J 108 j) : mR (uI I r s') C K := by
  refine ⟨fun k j z => ?_, fun k hk => by rw [h1 k (by omega)]; exact hs.2 k hk⟩
  have hz := hs.1 k j z
  by_cases y : k = 108
  · subst y
    have hj : scr 108 j = false := by
      rw [Bool.and_eq_true] at z
      have := z.2
      cases q : scr 108 j with
      | false => rfl
      | true => rw [q] at this; cases this
    have := scr108 hj
    by_cases w : j = 8
    · rw [w, h2, uI_8]
    · rw [h3 j w (by omega), hz]
      unfold uI
      rw [mm_u_j _ _ w, mm_u_j _ _ w]
  · rw [h1 k y, hz, uI_k _ _ _ y, uI_k _ _ _ y]
/-- a racer put in the row, with his place, breath and down -/
def k1 (J : pI) (c : Nat) (s : rS) : pI := mm_u (mm_u (mm_u (sr J 108 (m_puts J (nI c))) 108 42 s.1) 108 43 s.2.1) 108 45 s.2.2
theorem k1_o (J : pI) (c : Nat) (s : rS) {k : Nat} (h : k ≠ 108) : k1 J c s k = J k := by
  unfold k1; rw [mm_u_k _ _ _ h, mm_u_k _ _ _ h, mm_u_k _ _ _ h, sr_other _ _ h]
theorem k1_j (J : pI) (c : Nat) (s : rS) {j : Nat} (h : j ≠ 42) (h2 : j ≠ 43) (h3 : j ≠ 45) : k1 J c s 108 j = m_puts J (nI c) j := by
  unfold k1; rw [mm_u_j _ _ h3, mm_u_j _ _ h2, mm_u_j _ _ h, sr_same]
theorem k1_m (J : pI) (c : Nat) (s : rS) : m3 (k1 J c s 108) = s := by
  unfold m3 k1
  rw [mm_u_j _ _ (by decide), mm_u_j _ _ (by decide), mm_u_s, mm_u_j _ _ (by decide), mm_u_s, mm_u_s]
/-- a second of racer c in the row -/
theorem k1_q (v : vN I N S) {r : Int32} {t : yT} (hs : mR (uI I r t.2.2) C J) {c : Nat} (hc : c < 8) {sn x : Int32} {K : pI} (h : q2 (k1 J c (t.1 c)) sn x K) : mR (uI I r (y_sd (t.1 c) t.2.2 sn)) C K ∧ m3 (K 108) = y_tc I c (t.1 c) x ∧ (∀ k, k ≠ 108 → K k = J k) ∧ K 108 2 = I 108 2 ∧ ∀ n, m_rope (K 108) n = if 999 < n + m_ro (I 108 4) (I 112 c) then 999 else n + m_ro (I 108 4) (I 112 c) := by
  obtain ⟨h1, h2, h3, h4⟩ := h
  obtain ⟨a1, a2, a3, a4, a5, a6, a7, a8, a9⟩ := puts_q hs (nI c)
  obtain ⟨u1, u2⟩ := uI_q (I := I) r t.2.2
  rw [nI_clamp (by omega)] at a2 a3 a4 a5 a7 a8
  rw [uI_k _ _ _ (by decide)] at a2 a3 a4 a5
  rw [uI_k _ _ _ (by decide), uI_k _ _ _ (by decide), u1] at a7
  rw [uI_k _ _ _ (by decide), u2] at a8
  rw [uI_j _ _ _ (by decide) (by decide)] at a6
  have a1' : ∀ j, j < 6 → m_puts J (nI c) j = I 108 j := fun j hj => by rw [a1 j hj, uI_j _ _ _ (by omega) (by omega)]
  have b8 : m_puts J (nI c) 8 = t.2.2 := by rw [a9 8 (by omega), hs.r (by omega), uI_8]
  have kj : ∀ j, j < 42 → k1 J c (t.1 c) 108 j = m_puts J (nI c) j := fun j hj => k1_j _ _ _ (by omega) (by omega) (by omega)
  obtain ⟨c1, c2, c3⟩ := m_stride_cg (μ := m_puts J (nI c)) (ν := k1 J c (t.1 c) 108) (fun j h1 h2 => kj j (by omega))
  have d1 : m_stride (m_puts J (nI c)) = q_st I c := by unfold m_stride q_st; rw [a2, a3, a4, a7]
  have d2 : m_puff (m_puts J (nI c)) = k_puff (I 110 c) := by unfold m_puff; rw [a2]
  have d3 : m_risk (m_puts J (nI c)) = q_ri I c := by unfold m_risk q_ri q_rk; rw [d1, a2, a7, a8]; rfl
  rw [k1_m, c1, c2, c3, d1, d2, d3, kj 41 (by omega), kj 3 (by omega), a6, a1' 3 (by omega)] at h2
  rw [k1_m, kj 8 (by omega), b8] at h3
  have ko : ∀ k, k ≠ 108 → K k = J k := fun k hk => by rw [h1 k hk, k1_o _ _ _ hk]
  refine ⟨hs.seed ko h3 (fun j q1 q2 => ?_), h2, ko, ?_, fun n => ?_⟩
  · rw [h4 j q1 (by omega), k1_j _ _ _ (by omega) (by omega) (by omega), a9 j (by omega)]
  · rw [h4 2 (by omega) (by omega), kj 2 (by omega), a1' 2 (by omega)]
  · unfold m_rope m_ro
    rw [h4 37 (by omega) (by omega), h4 4 (by omega) (by omega), kj 37 (by omega), kj 4 (by omega), a1' 4 (by omega), a4]
end P98d
