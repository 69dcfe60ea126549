/-! PUBLIC METHODS: race, summer: the class -/
section P94
variable {I C J : pI} {L : pL} {N S : Nat}

/-- place, breath, down -/
abbrev rS : Type := Int32 × Int32 × Int32
def r3 (ρ : mRow) : rS := (ρ 9, ρ 10, ρ 12)
/-- a second of one who drew x -/
def y_t3 (rl up st pf rk : Int32) (s : rS) (x : Int32) : rS :=
  if 0 < s.2.2 then ((if rl = 1 then s.1 + 1 else s.1), (if 60 < s.2.1 + 2 then 60 else s.2.1 + 2), s.2.2 - 1)
  else if x < rk + (if s.2.1 < pf then 20 else 0) then (s.1, h_b s.2.1 pf, up)
  else (s.1 + st, h_b s.2.1 pf, s.2.2)
def y_sd (s : rS) (sd sn : Int32) : Int32 := if 0 < s.2.2 then sd else sn
theorem y_t3_a {rl up st pf rk x : Int32} {s : rS} (h : 0 < s.2.2) : y_t3 rl up st pf rk s x = ((if rl = 1 then s.1 + 1 else s.1), (if 60 < s.2.1 + 2 then 60 else s.2.1 + 2), s.2.2 - 1) := if_pos h
theorem y_t3_b {rl up st pf rk x : Int32} {s : rS} (h : ¬ 0 < s.2.2) (h2 : x < rk + (if s.2.1 < pf then 20 else 0)) : y_t3 rl up st pf rk s x = (s.1, h_b s.2.1 pf, up) := (if_neg h).trans (if_pos h2)
theorem y_t3_c {rl up st pf rk x : Int32} {s : rS} (h : ¬ 0 < s.2.2) (h2 : ¬ x < rk + (if s.2.1 < pf then 20 else 0)) : y_t3 rl up st pf rk s x = (s.1 + st, h_b s.2.1 pf, s.2.2) := (if_neg h).trans (if_neg h2)
theorem b2_wi {b : Int32} (hb : wi b 0 60) : wi (if 60 < b + 2 then 60 else b + 2) 0 60 := by
  have h := @h_s_b 0 0 0 0 0 (0, b, 0, 1, 0) hb ⟨by decide, by decide⟩
  unfold h_s at h
  rw [if_pos (show (0 : Int32) < 1 by decide)] at h
  exact h
theorem y_t3_w {rl up st pf rk x : Int32} {s : rS} (hb : wi s.2.1 0 60) (hp : wi pf 0 5) : wi (y_t3 rl up st pf rk s x).2.1 0 60 := by
  by_cases h : 0 < s.2.2
  · rw [y_t3_a h]; exact b2_wi hb
  · by_cases h2 : x < rk + (if s.2.1 < pf then 20 else 0)
    · rw [y_t3_b h h2]; exact h_b_wi hb hp
    · rw [y_t3_c h h2]; exact h_b_wi hb hp
theorem r_risk_e (ρ : mRow) : r_risk ρ = ρ 8 + (if ρ 10 < ρ 7 then 20 else 0) := by
  unfold r_risk
  split
  · rfl
  · rw [Int32.add_zero]
theorem r_lie_3 {ρ : mRow} (hl : ρ 2 = 0 ∨ ρ 2 = 1) : r3 (r_lie ρ) = ((if ρ 2 = 1 then ρ 9 + 1 else ρ 9), (if 60 < ρ 10 + 2 then 60 else ρ 10 + 2), ρ 12 - 1) ∧ r_lie ρ 15 = ρ 15 + 1 ∧ ∀ j, j < 9 → r_lie ρ j = ρ j := by
  refine ⟨?_, ?_, fun j hj => ?_⟩
  · unfold r3 r_lie
    rcases hl with q | q
    · simp [upd, q, min60]
    · simp [upd, q, min60]
  · unfold r_lie
    rcases hl with q | q
    · simp [upd, q]
    · simp [upd, q]
  · have j1 : j ≠ 12 := by omega
    have j2 : j ≠ 10 := by omega
    have j3 : j ≠ 9 := by omega
    have j4 : j ≠ 15 := by omega
    unfold r_lie
    rcases hl with q | q
    · simp [upd, q, j1, j2, j3, j4]
    · simp [upd, q, j1, j2, j3, j4]
theorem r_hop_3 {ρ : mRow} (h : r_puffs ρ = h_b (ρ 10) (ρ 7)) : (r3 (r_hop ρ 0) = (ρ 9 + ρ 6, h_b (ρ 10) (ρ 7), ρ 12) ∧ r_hop ρ 0 15 = ρ 15 + 1 ∧ ∀ j, j < 9 → r_hop ρ 0 j = ρ j) ∧ (r3 (r_hop ρ 1) = (ρ 9, h_b (ρ 10) (ρ 7), ρ 4) ∧ r_hop ρ 1 15 = ρ 15 + 1 ∧ ∀ j, j < 9 → r_hop ρ 1 j = ρ j) := by
  have e10 : ¬ (1 : Int32) = 0 := by decide
  refine ⟨⟨?_, ?_, fun j hj => ?_⟩, ?_, ?_, fun j hj => ?_⟩
  · unfold r3 r_hop; simp [upd, h]
  · unfold r_hop; simp [upd]
  · have j2 : j ≠ 10 := by omega
    have j3 : j ≠ 9 := by omega
    have j4 : j ≠ 15 := by omega
    unfold r_hop; simp [upd, j2, j3, j4]
  · unfold r3 r_hop
    by_cases z : ρ 13 = 0
    · simp [upd, h, z]
    · simp [upd, h, z]
  · unfold r_hop
    by_cases z : ρ 13 = 0
    · simp [upd, z]
    · simp [upd, z]
  · have j1 : j ≠ 12 := by omega
    have j2 : j ≠ 10 := by omega
    have j3 : j ≠ 13 := by omega
    have j4 : j ≠ 15 := by omega
    have j5 : j ≠ 14 := by omega
    unfold r_hop
    by_cases z : ρ 13 = 0
    · simp [upd, z, j1, j2, j3, j4, j5]
    · simp [upd, z, j1, j2, j3, j4, j5]
end P94
