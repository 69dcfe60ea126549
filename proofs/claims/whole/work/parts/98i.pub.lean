/-! PUBLIC METHODS: race, summer: all starts of the reference -/
section P98i
variable {I C J K : pI} {L : pL} {N S : Nat}

theorem rR_add {r : Int32} {t : yT} {i : Nat} (hR : rR I r C i t J) (h1 : mR (uI I r t.2.2) C K) (h2 : ∀ k, k ≠ 108 → K k = J k) : rR I r C (i + 1) t (mm_u (k3 K i (t.1 i).1 (t.1 i).2.1 (t.1 i).2.2) 136 i (t.2.1 i)) := by
  refine ⟨(((h1.u (by decide) rfl).u (by decide) rfl).u (by decide) rfl).u (by decide) rfl, fun e he => ?_⟩
  unfold k3
  by_cases y : e = i
  · rw [y]
    refine ⟨?_, ?_, ?_, mm_u_s _ _ _ _⟩
    · rw [mm_u_o _ _ _ _ (by decide), mm_u_o _ _ _ _ (by decide), mm_u_o _ _ _ _ (by decide), mm_u_s]
    · rw [mm_u_o _ _ _ _ (by decide), mm_u_o _ _ _ _ (by decide), mm_u_s]
    · rw [mm_u_o _ _ _ _ (by decide), mm_u_s]
  · obtain ⟨b1, b2, b3, b4⟩ := hR.2 e (by omega)
    refine ⟨?_, ?_, ?_, ?_⟩
    · rw [mm_u_o _ _ _ _ (by decide), mm_u_o _ _ _ _ (by decide), mm_u_o _ _ _ _ (by decide), mm_u_j _ _ y, h2 133 (by decide)]; exact b1
    · rw [mm_u_o _ _ _ _ (by decide), mm_u_o _ _ _ _ (by decide), mm_u_j _ _ y, mm_u_o _ _ _ _ (by decide), h2 134 (by decide)]; exact b2
    · rw [mm_u_o _ _ _ _ (by decide), mm_u_j _ _ y, mm_u_o _ _ _ _ (by decide), mm_u_o _ _ _ _ (by decide), h2 135 (by decide)]; exact b3
    · rw [mm_u_j _ _ y, mm_u_o _ _ _ _ (by decide), mm_u_o _ _ _ _ (by decide), mm_u_o _ _ _ _ (by decide), h2 136 (by decide)]; exact b4
/-- a racer put in the row and at his start -/
def k0 (J : pI) (c : Nat) : pI := sr (sr J 108 (m_puts J (nI c))) 108 (m_starts (sr J 108 (m_puts J (nI c)) 108))
theorem k0_q (v : vN I N S) {r sd : Int32} (hs : mR (uI I r sd) C J) {c : Nat} (hc : c < 8) : mR (uI I r sd) C (k0 J c) ∧ (∀ k, k ≠ 108 → k0 J c k = J k) ∧ k0 J c 108 42 = I 114 c ∧ k0 J c 108 43 = I 108 5 ∧ k0 J c 108 2 = I 108 2 ∧ m_rope (k0 J c 108) 0 = y_ro I c 0 := by
  obtain ⟨a1, a2, a3, a4, a5, a6, a7, a8, a9⟩ := puts_q hs (nI c)
  rw [nI_clamp (by omega), uI_k _ _ _ (by decide)] at a4 a5
  have a1' : ∀ j, j < 6 → m_puts J (nI c) j = I 108 j := fun j hj => by rw [a1 j hj, uI_j _ _ _ (by omega) (by omega)]
  have e : k0 J c 108 = m_starts (m_puts J (nI c)) := by unfold k0; rw [sr_same, sr_same]
  have eo : ∀ j, j < 42 ∨ 46 < j → m_starts (m_puts J (nI c)) j = m_puts J (nI c) j := fun j hj => by
    unfold m_starts
    rw [up_o _ _ (by omega), up_o _ _ (by omega), up_o _ _ (by omega), up_o _ _ (by omega), up_o _ _ (by omega)]
  have ko : ∀ k, k ≠ 108 → k0 J c k = J k := fun k hk => by unfold k0; rw [sr_other _ _ hk, sr_other _ _ hk]
  refine ⟨hs.seed ko ?_ (fun j q1 q2 => ?_), ko, ?_, ?_, ?_, ?_⟩
  · rw [e, eo 8 (by omega), a9 8 (by omega), hs.r (by omega), uI_8]
  · rw [e, eo j (by omega), a9 j (by omega)]
  · rw [e, ← a5]; simp [m_starts, upd]
  · rw [e, ← a1' 5 (by omega)]; simp [m_starts, upd]
  · rw [e, eo 2 (by omega), a1' 2 (by omega)]
  · unfold m_rope y_ro m_ro
    rw [e, eo 37 (by omega), eo 4 (by omega), a4, a1' 4 (by omega)]
    rfl

set_option maxHeartbeats 400000 in
theorem lp_r12 (d : Nat) (v : vN I N S) {r sd : Int32} {Q : Option Value → mm_M → Prop} : ∀ (n i : Nat) (v2 : Option Value) (J : pI), i + n = N → (∀ w2 K, rR I r C N (y_s0 I, y_i0 I, sd) K → gP mm_cs0 (d + 7) 9 false (some .int) cX9_raced 92 [some (.ref 108), some (.int 1), w2] [] (mm_sh, mm_R, K, L) Q) → rR I r C i (y_s0 I, y_i0 I, sd) J → gP mm_cs0 (d + 7) 9 false (some .int) cX9_raced 12 [some (.ref 108), some (.int (nI i)), v2] [] (mm_sh, mm_R, J, L) Q := by
  intro n
  induction n with
  | zero =>
    intro i v2 J hi hcont hR
    obtain rfl : i = N := by omega
    have hN8 := v.1
    have zq0 : J 108 0 = nI i := by rw [hR.1.r (by omega), uI_j _ _ _ (by decide) (by decide)]; exact v.2.2.1
    have hc1 : nI i ≤ nI i := Int32.le_refl _
    refine gp_iload_n dX9_raced_12 rfl ?_
    refine gp_aload_n dX9_raced_13 rfl ?_
    refine gp_giv dX9_raced_14 mf_9_117 (by decide) (by first | rfl | assumption | (simp only [*]; done)) (by first | exact zq0 | exact rfl) ?_
    refine gp_icc (t := 90) dX9_raced_17 (by decide) c2_ge (fun h1 => ?_) (fun h1 => ?_)
    · have h1' := Int32.not_lt.mpr h1
      refine gp_pu (st' := .int (1) :: _) dX9_raced_90 rfl ?_
      refine gp_istore_n (ls' := [some (.ref _), some (.int _), _]) dX9_raced_91 rfl (Nat.le_of_ble_eq_true rfl) ?_
      exact hcont _ _ hR
    · exact absurd hc1 h1
  | succ n ih =>
    intro i v2 J hi hcont hR
    have hN8 := v.1
    have zq0 : J 108 0 = nI N := by rw [hR.1.r (by omega), uI_j _ _ _ (by decide) (by decide)]; exact v.2.2.1
    have hc1 : ¬ nI N ≤ nI i := nI_ge (by omega) (by omega)
    have v' := uI_v v r sd
    have hcc := ch_n v' (show i < N by omega)
    have hc8 : mm_in (nI i) 8 = true := v'.in8 hcc
    have zqs := v'.sin hR.1 hcc
    obtain ⟨zk1, zk2, zk3, zk4, zk5, zk6⟩ := k0_q v hR.1 (show i < 8 by omega)
    refine gp_iload_n dX9_raced_12 rfl ?_
    refine gp_aload_n dX9_raced_13 rfl ?_
    refine gp_giv dX9_raced_14 mf_9_117 (by decide) (by first | rfl | assumption | (simp only [*]; done)) (by first | exact zq0 | exact rfl) ?_
    refine gp_icc (t := 90) dX9_raced_17 (by decide) c2_ge (fun h1 => ?_) (fun h1 => ?_)
    · exact absurd h1 hc1
    · have h1' := Int32.not_le.mp h1
      refine gp_aload_n dX9_raced_20 rfl ?_
      refine gp_iload_n dX9_raced_21 rfl ?_
      refine gp_call (kind := 1) (args := [.ref _, .int _]) (rest := _) dX9_raced_22 (Or.inr (Or.inl ⟨rfl, rfl⟩)) mk_9_134 (by decide) me_166 rfl rfl rfl rfl rfl (mm_rc_of (by first | rfl | assumption | (simp only [*]; done))) (ok_X9_puts _ J _ (nI i) hc8 zqs) rfl ?_
      refine gp_aload_n dX9_raced_25 rfl ?_
      refine gp_call (kind := 1) (args := [.ref _]) (rest := _) dX9_raced_26 (Or.inr (Or.inl ⟨rfl, rfl⟩)) mk_9_281 (by decide) me_173 rfl rfl rfl rfl rfl (mm_rc_of (by first | rfl | assumption | (simp only [*]; done))) (ok_X9_starts _ _ _) rfl ?_
      (refine dn_rs2 d (K := k0 J i) hc8 zk3 zk4 zk5 zk6 ?_
       rw [nI_1, nI_clamp (by omega)]
       exact ih (i + 1) v2 _ (by omega) hcont (rR_add (t := (y_s0 I, y_i0 I, sd)) hR zk1 zk2))
end P98i
