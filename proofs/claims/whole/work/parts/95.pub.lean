/-! PUBLIC METHODS: race, summer: a second of the class -/
section P95
variable {I C J : pI} {L : pL} {N S : Nat}

theorem x_s3 {M : pI} {h : Int32} {r : Nat} (hr : 92 ≤ r) (ha : ¬ M r 3 ≤ M r 9) (hb : wi (M r 10) 0 60) (hp : wi (M r 7) 0 5) (hl : M r 2 = 0 ∨ M r 2 = 1) {sn x : Int32} (hsn : i_next (M 1 7) = sn) (hx : i_draw sn 100 = x) :
    ∃ K, x_seS (M, h) r = (K, h + 1) ∧ r3 (K r) = y_t3 (M r 2) (M r 4) (M r 6) (M r 7) (M r 8) (r3 (M r)) x ∧ K 1 7 = y_sd (r3 (M r)) (M 1 7) sn ∧ K r 15 = M r 15 + 1 ∧ (∀ j, j < 9 → K r j = M r j) ∧ (∀ a, a ≠ 1 → a ≠ r → K a = M a) ∧ ∀ j, j ≠ 7 → K 1 j = M 1 j := by
  have h1 : r ≠ 1 := by omega
  have hd : x_dr M r = M r := by unfold x_dr; rw [sr_other _ _ h1]
  have hd1 : x_dr M 1 7 = sn := by unfold x_dr; rw [sr_same, up_s]; exact hsn
  have hd2 : ∀ j, j ≠ 7 → x_dr M 1 j = M 1 j := fun j hj => by unfold x_dr; rw [sr_same, up_o _ _ hj]
  have hd3 : ∀ a, a ≠ 1 → x_dr M a = M a := fun a ha => by unfold x_dr; rw [sr_other _ _ ha]
  obtain ⟨⟨p1, p2, p3⟩, q1, q2, q3⟩ := r_hop_3 (r_puffs_h hb hp)
  obtain ⟨l1, l2, l3⟩ := r_lie_3 hl
  have er := r_risk_e (M r)
  by_cases h2 : 0 < M r 12
  · refine ⟨_, x_se_b (p := (M, h)) ha h2, ?_, ?_, ?_, fun j hj => ?_, fun a h3 h4 => sr_other _ _ h4, fun j _ => ?_⟩
    · show r3 (sr M r (r_lie (M r)) r) = _
      rw [sr_same, l1, y_t3_a (s := r3 (M r)) h2]
      rfl
    · show sr M r _ 1 7 = _
      rw [sr_other _ _ (Ne.symm h1), y_sd, if_pos (show 0 < (r3 (M r)).2.2 from h2)]
    · show sr M r (r_lie (M r)) r 15 = _
      rw [sr_same, l2]
    · show sr M r (r_lie (M r)) r j = _
      rw [sr_same, l3 j hj]
    · show sr M r _ 1 j = _
      rw [sr_other _ _ (Ne.symm h1)]
  · have ed : y_sd (r3 (M r)) (M 1 7) sn = sn := if_neg h2
    by_cases h3 : r_risk (M r) ≤ x
    · refine ⟨_, x_se_c (p := (M, h)) ha h2 (by show r_risk (x_dr M r) ≤ i_draw (i_next (M 1 7)) 100; rw [hd, hsn, hx]; exact h3), ?_, ?_, ?_, fun j hj => ?_, fun a h3 h4 => ?_, fun j hj => ?_⟩
      · show r3 (sr (x_dr M) r (r_hop (x_dr M r) 0) r) = _
        rw [sr_same, hd, p1, y_t3_c (s := r3 (M r)) h2 (by rw [er] at h3; exact Int32.not_lt.mpr h3)]
        rfl
      · show sr (x_dr M) r _ 1 7 = _
        rw [sr_other _ _ (Ne.symm h1), hd1, ed]
      · show sr (x_dr M) r (r_hop (x_dr M r) 0) r 15 = _
        rw [sr_same, hd, p2]
      · show sr (x_dr M) r (r_hop (x_dr M r) 0) r j = _
        rw [sr_same, hd, p3 j hj]
      · show sr (x_dr M) r _ a = _
        rw [sr_other _ _ h4, hd3 a h3]
      · show sr (x_dr M) r _ 1 j = _
        rw [sr_other _ _ (Ne.symm h1), hd2 j hj]
    · refine ⟨_, x_se_d (p := (M, h)) ha h2 (by show ¬ r_risk (x_dr M r) ≤ i_draw (i_next (M 1 7)) 100; rw [hd, hsn, hx]; exact h3), ?_, ?_, ?_, fun j hj => ?_, fun a h3 h4 => ?_, fun j hj => ?_⟩
      · show r3 (sr (x_dr M) r (r_hop (x_dr M r) 1) r) = _
        rw [sr_same, hd, q1, y_t3_b (s := r3 (M r)) h2 (by rw [er] at h3; exact Int32.not_le.mp h3)]
        rfl
      · show sr (x_dr M) r _ 1 7 = _
        rw [sr_other _ _ (Ne.symm h1), hd1, ed]
      · show sr (x_dr M) r (r_hop (x_dr M r) 1) r 15 = _
        rw [sr_same, hd, q2]
      · show sr (x_dr M) r (r_hop (x_dr M r) 1) r j = _
        rw [sr_same, hd, q3 j hj]
      · show sr (x_dr M) r _ a = _
        rw [sr_other _ _ h4, hd3 a h3]
      · show sr (x_dr M) r _ 1 j = _
        rw [sr_other _ _ (Ne.symm h1), hd2 j hj]
end P95
