/-! PUBLIC METHODS: race, summer: a second of the reference -/
section P98b
variable {I C J : pI} {L : pL} {N S : Nat}

theorem m_rests_3 {μ : mRow} (hl : μ 41 = 0 ∨ μ 41 = 1) : ((m_rests μ 42, m_rests μ 43, m_rests μ 45) : rS) = ((if μ 41 = 1 then μ 42 + 1 else μ 42), (if 60 < μ 43 + 2 then 60 else μ 43 + 2), μ 45 - 1) ∧ ∀ j, j < 42 ∨ 46 < j → m_rests μ j = μ j := by
  refine ⟨?_, fun j hj => ?_⟩
  · unfold m_rests
    rcases hl with q | q
    · simp [upd, q]
    · simp [upd, q]
  · have j1 : j ≠ 42 := by omega
    have j2 : j ≠ 43 := by omega
    have j3 : j ≠ 45 := by omega
    unfold m_rests
    rcases hl with q | q
    · simp [upd, q, j1, j2, j3]
    · simp [upd, q, j1, j2, j3]
theorem m_puffs_3 (μ : mRow) : m_puffs μ 43 = h_b (μ 43) (m_puff μ) ∧ ∀ j, j ≠ 43 → m_puffs μ j = μ j := by
  refine ⟨?_, fun j hj => ?_⟩
  · simp [m_puffs, upd, h_b]
  · simp [m_puffs, upd, hj]
theorem m_falls_3 (μ : mRow) : m_falls μ 45 = μ 3 ∧ ∀ j, j ≠ 45 → j ≠ 46 → m_falls μ j = μ j := by
  refine ⟨?_, fun j h1 h2 => ?_⟩
  · simp [m_falls, upd]
  · simp [m_falls, upd, h1, h2]
theorem m_stride_cg {μ ν : mRow} (h : ∀ j, 35 ≤ j → j < 40 → ν j = μ j) : m_stride ν = m_stride μ ∧ m_puff ν = m_puff μ ∧ m_risk ν = m_risk μ := by
  have e : m_stride ν = m_stride μ := by unfold m_stride; rw [h 35 (by omega) (by omega), h 36 (by omega) (by omega), h 37 (by omega) (by omega), h 38 (by omega) (by omega)]
  refine ⟨e, ?_, ?_⟩
  · unfold m_puff; rw [h 35 (by omega) (by omega)]
  · unfold m_risk; rw [e, h 35 (by omega) (by omega), h 38 (by omega) (by omega), h 39 (by omega) (by omega)]
def m3 (μ : mRow) : rS := (μ 42, μ 43, μ 45)
def q2 (J : pI) (sn x : Int32) (K : pI) : Prop := (∀ k, k ≠ 108 → K k = J k) ∧ m3 (K 108) = y_t3 (J 108 41) (J 108 3) (m_stride (J 108)) (m_puff (J 108)) (m_risk (J 108)) (m3 (J 108)) x ∧ K 108 8 = y_sd (m3 (J 108)) (J 108 8) sn ∧ ∀ j, j ≠ 8 → (j < 42 ∨ 46 < j) → K 108 j = J 108 j
theorem sq_a {sn x : Int32} (hl : J 108 41 = 0 ∨ J 108 41 = 1) (h : 0 < J 108 45) : q2 J sn x (sr J 108 (m_rests (J 108))) := by
  obtain ⟨a1, a2⟩ := m_rests_3 hl
  refine ⟨fun k hk => sr_other _ _ hk, ?_, ?_, fun j h1 h2 => ?_⟩
  · rw [sr_same, y_t3_a (s := m3 (J 108)) h]; exact a1
  · rw [sr_same, a2 8 (by omega), y_sd, if_pos (show 0 < (m3 (J 108)).2.2 from h)]
  · rw [sr_same, a2 j h2]
theorem sq_k (sn : Int32) : (∀ j, j ≠ 8 → mm_u J 108 8 sn 108 j = J 108 j) ∧ mm_u J 108 8 sn 108 8 = sn := ⟨fun j hj => mm_u_j _ _ hj, mm_u_s _ _ _ _⟩
theorem sq_r (sn : Int32) : m_riskNow (mm_u J 108 8 sn 108) = m_risk (J 108) + (if (m3 (J 108)).2.1 < m_puff (J 108) then 20 else 0) := by
  obtain ⟨e1, e2⟩ := sq_k (J := J) sn
  obtain ⟨c1, c2, c3⟩ := m_stride_cg (μ := J 108) (ν := mm_u J 108 8 sn 108) (fun j h1 h2 => e1 j (by omega))
  unfold m_riskNow
  rw [c2, c3, e1 43 (by decide)]
  rfl
theorem sq_b {sn x : Int32} (h : ¬ 0 < J 108 45) (h2 : ¬ m_riskNow (mm_u J 108 8 sn 108) ≤ x) : q2 J sn x (sr (sr (mm_u J 108 8 sn) 108 (m_puffs (mm_u J 108 8 sn 108))) 108 (m_falls (sr (mm_u J 108 8 sn) 108 (m_puffs (mm_u J 108 8 sn 108)) 108))) := by
  rw [sq_r] at h2
  obtain ⟨e1, e2⟩ := sq_k (J := J) sn
  obtain ⟨c1, c2, c3⟩ := m_stride_cg (μ := J 108) (ν := mm_u J 108 8 sn 108) (fun j h1 h2 => e1 j (by omega))
  obtain ⟨p1, p2⟩ := m_puffs_3 (mm_u J 108 8 sn 108)
  obtain ⟨f1, f2⟩ := m_falls_3 (m_puffs (mm_u J 108 8 sn 108))
  have eo : ∀ k, k ≠ 108 → mm_u J 108 8 sn k = J k := fun k hk => mm_u_k _ _ _ hk
  generalize mm_u J 108 8 sn = K at *
  refine ⟨fun k hk => by rw [sr_other _ _ hk, sr_other _ _ hk, eo k hk], ?_, ?_, fun j h3 h4 => ?_⟩
  · rw [y_t3_b (s := m3 (J 108)) h (Int32.not_le.mp h2), sr_same, sr_same]
    unfold m3
    rw [f1, f2 42 (by decide) (by decide), f2 43 (by decide) (by decide), p1, p2 42 (by decide), p2 3 (by decide), c2, e1 42 (by decide), e1 43 (by decide), e1 3 (by decide)]
  · rw [sr_same, sr_same, f2 8 (by decide) (by decide), p2 8 (by decide), e2]
    exact (if_neg h).symm
  · rw [sr_same, sr_same, f2 j (by omega) (by omega), p2 j (by omega), e1 j h3]
theorem sq_c {sn x : Int32} (h : ¬ 0 < J 108 45) (h2 : m_riskNow (mm_u J 108 8 sn 108) ≤ x) : q2 J sn x (mm_u (sr (mm_u J 108 8 sn) 108 (m_puffs (mm_u J 108 8 sn 108))) 108 42 (sr (mm_u J 108 8 sn) 108 (m_puffs (mm_u J 108 8 sn 108)) 108 42 + m_stride (sr (mm_u J 108 8 sn) 108 (m_puffs (mm_u J 108 8 sn 108)) 108))) := by
  rw [sq_r] at h2
  obtain ⟨e1, e2⟩ := sq_k (J := J) sn
  obtain ⟨c1, c2, c3⟩ := m_stride_cg (μ := J 108) (ν := mm_u J 108 8 sn 108) (fun j h1 h2 => e1 j (by omega))
  obtain ⟨p1, p2⟩ := m_puffs_3 (mm_u J 108 8 sn 108)
  have eo : ∀ k, k ≠ 108 → mm_u J 108 8 sn k = J k := fun k hk => mm_u_k _ _ _ hk
  generalize mm_u J 108 8 sn = K at *
  obtain ⟨d1, d2, d3⟩ := m_stride_cg (μ := K 108) (ν := m_puffs (K 108)) (fun j h1 h2 => p2 j (by omega))
  rw [sr_same, d1, c1]
  refine ⟨fun k hk => by rw [mm_u_k _ _ _ hk, sr_other _ _ hk, eo k hk], ?_, ?_, fun j h3 h4 => ?_⟩
  · rw [y_t3_c (s := m3 (J 108)) h (Int32.not_lt.mpr h2)]
    unfold m3
    rw [mm_u_s, mm_u_j _ _ (by decide), mm_u_j _ _ (by decide), sr_same, p1, p2 42 (by decide), p2 45 (by decide), c2, e1 42 (by decide), e1 43 (by decide), e1 45 (by decide)]
  · rw [mm_u_j _ _ (by decide), sr_same, p2 8 (by decide), e2]
    exact (if_neg h).symm
  · rw [mm_u_j _ _ (by omega), sr_same, p2 j (by omega), e1 j h3]

set_option maxHeartbeats 400000 in
theorem ms_second (d : Nat) (hd : isKd (J 108 35)) (hl : J 108 41 = 0 ∨ J 108 41 = 1) {sn x : Int32} (hsn : i_next (J 108 8) = sn) (hx : i_draw sn 100 = x) : cP (d + 5) 207 [.ref 108] (mm_sh, mm_R, J, L) (pX none L (q2 J sn x)) := by
  have zqd : isKd (mm_u J 108 8 sn 108 35) := by rw [mm_u_j _ _ (by decide)]; exact hd
  have zqe : isKd (sr (mm_u J 108 8 sn) 108 (m_puffs (mm_u J 108 8 sn 108)) 108 35) := by rw [sr_same, (m_puffs_3 _).2 35 (by decide)]; exact zqd
  refine cP.of_gP (d := d + 4) me_207 ⟨Nat.le_of_ble_eq_true rfl, rfl⟩ ?_
  show gP mm_cs0 _ _ _ _ _ _ [some (.ref _), none] [] _ _
  refine gp_aload_n dX9_secondInTruth_0 rfl ?_
  refine gp_giv dX9_secondInTruth_1 mf_9_263 (by decide) (by first | rfl | assumption | (simp only [*]; done)) (by first | exact rfl) ?_
  refine gp_ifc (t := 12) dX9_secondInTruth_4 (by decide) c1_le (fun h1 => ?_) (fun h1 => ?_)
  · have h1' := Int32.not_lt.mpr h1
    refine gp_aload_n dX9_secondInTruth_12 rfl ?_
    refine gp_pu (st' := .int (100) :: _) dX9_secondInTruth_13 rfl ?_
    refine gp_callX (kind := 1) (args := [.ref _, .int _]) (rest := _) dX9_secondInTruth_15 (Or.inr (Or.inl ⟨rfl, rfl⟩)) mk_9_337 (by decide) me_206 rfl rfl rfl rfl rfl (mm_rc_of (by first | rfl | assumption | (simp only [*]; done))) (me_draw _ hsn hx) ?_
    intro K1 hK1
    rw [hK1]
    refine gp_aload_n dX9_secondInTruth_18 rfl ?_
    refine gp_call (kind := 1) (args := [.ref _]) (rest := _) dX9_secondInTruth_19 (Or.inr (Or.inl ⟨rfl, rfl⟩)) mk_9_272 (by decide) me_172 rfl rfl rfl rfl rfl (mm_rc_of (by first | rfl | assumption | (simp only [*]; done))) (ok_X9_riskNow _ _ _ zqd) rfl ?_
    refine gp_icc (t := 29) dX9_secondInTruth_22 (by decide) c2_ge (fun h2 => ?_) (fun h2 => ?_)
    · have h2' := Int32.not_lt.mpr h2
      refine gp_pu (st' := .int (0) :: _) dX9_secondInTruth_29 rfl ?_
      refine gp_istore_n (ls' := [some (.ref _), some (.int _)]) dX9_secondInTruth_30 rfl (Nat.le_of_ble_eq_true rfl) ?_
      refine gp_aload_n dX9_secondInTruth_31 rfl ?_
      refine gp_call (kind := 1) (args := [.ref _]) (rest := _) dX9_secondInTruth_32 (Or.inr (Or.inl ⟨rfl, rfl⟩)) mk_9_275 (by decide) me_176 rfl rfl rfl rfl rfl (mm_rc_of (by first | rfl | assumption | (simp only [*]; done))) (ok_X9_puffs _ _ _ zqd) rfl ?_
      refine gp_iload_n dX9_secondInTruth_35 rfl ?_
      refine gp_ifc (t := 46) dX9_secondInTruth_36 (by decide) c1_eq (fun h3 => ?_) (fun h3 => ?_)
      · refine gp_aload_n dX9_secondInTruth_46 rfl ?_
        refine gp_pu dX9_secondInTruth_47 rfl ?_
        refine gp_giv dX9_secondInTruth_48 mf_9_257 (by decide) (by first | rfl | assumption | (simp only [*]; done)) (by first | exact rfl) ?_
        refine gp_aload_n dX9_secondInTruth_51 rfl ?_
        refine gp_call (kind := 1) (args := [.ref _]) (rest := _) dX9_secondInTruth_52 (Or.inr (Or.inl ⟨rfl, rfl⟩)) mk_9_142 (by decide) me_169 rfl rfl rfl rfl rfl (mm_rc_of (by first | rfl | assumption | (simp only [*]; done))) (ok_X9_stride _ _ _ zqe) rfl ?_
        refine gp_pu (st' := .int _ :: _) dX9_secondInTruth_55 rfl ?_
        refine gp_pi dX9_secondInTruth_56 mf_9_257 rfl rfl (by first | rfl | assumption | (simp only [*]; done)) ?_
        refine gp_vret dX9_secondInTruth_59 rfl ?_
        first | exact pX.mk rfl (sq_a hl (Int32.not_le.mp h1)) | exact pX.mk rfl (sq_b (Int32.not_lt.mpr h1) h2) | exact pX.mk rfl (sq_c (Int32.not_lt.mpr h1) h2)
      · exact absurd (by decide) h3
    · have h2' := Int32.not_le.mp h2
      refine gp_pu (st' := .int (1) :: _) dX9_secondInTruth_25 rfl ?_
      refine gp_goto (t := 30) dX9_secondInTruth_26 (by decide) ?_
      refine gp_istore_n (ls' := [some (.ref _), some (.int _)]) dX9_secondInTruth_30 rfl (Nat.le_of_ble_eq_true rfl) ?_
      refine gp_aload_n dX9_secondInTruth_31 rfl ?_
      refine gp_call (kind := 1) (args := [.ref _]) (rest := _) dX9_secondInTruth_32 (Or.inr (Or.inl ⟨rfl, rfl⟩)) mk_9_275 (by decide) me_176 rfl rfl rfl rfl rfl (mm_rc_of (by first | rfl | assumption | (simp only [*]; done))) (ok_X9_puffs _ _ _ zqd) rfl ?_
      refine gp_iload_n dX9_secondInTruth_35 rfl ?_
      refine gp_ifc (t := 46) dX9_secondInTruth_36 (by decide) c1_eq (fun h4 => ?_) (fun h4 => ?_)
      · exact absurd h4 (by decide)
      · refine gp_aload_n dX9_secondInTruth_39 rfl ?_
        refine gp_call (kind := 1) (args := [.ref _]) (rest := _) dX9_secondInTruth_40 (Or.inr (Or.inl ⟨rfl, rfl⟩)) mk_9_278 (by decide) me_174 rfl rfl rfl rfl rfl (mm_rc_of (by first | rfl | assumption | (simp only [*]; done))) (ok_X9_falls _ _ _) rfl ?_
        refine gp_goto (t := 59) dX9_secondInTruth_43 (by decide) ?_
        refine gp_vret dX9_secondInTruth_59 rfl ?_
        first | exact pX.mk rfl (sq_a hl (Int32.not_le.mp h1)) | exact pX.mk rfl (sq_b (Int32.not_lt.mpr h1) h2) | exact pX.mk rfl (sq_c (Int32.not_lt.mpr h1) h2)
  · have h1' := Int32.not_le.mp h1
    refine gp_aload_n dX9_secondInTruth_7 rfl ?_
    refine gp_call (kind := 1) (args := [.ref _]) (rest := _) dX9_secondInTruth_8 (Or.inr (Or.inl ⟨rfl, rfl⟩)) mk_9_269 (by decide) me_175 rfl rfl rfl rfl rfl (mm_rc_of (by first | rfl | assumption | (simp only [*]; done))) (ok_X9_rests _ _ _) rfl ?_
    refine gp_vret dX9_secondInTruth_11 rfl ?_
    first | exact pX.mk rfl (sq_a hl (Int32.not_le.mp h1)) | exact pX.mk rfl (sq_b (Int32.not_lt.mpr h1) h2) | exact pX.mk rfl (sq_c (Int32.not_lt.mpr h1) h2)
end P98b
