/-! PUBLIC METHODS: race, summer: what a race leaves -/
section P98k
variable {I C J K : pI} {L : pL} {N S : Nat}

theorem bR.cF (hb : bR I N S) : cF I N S I := ⟨hb.c11 (sc.rf I), hb.c13 (sc.rf I), hb.c15 (sc.rf I), fun w hw => hb.w (sc.rf I) hw, fun c hc j hj => hb.c (sc.rf I) hc (by omega), fun k hk j hj => hb.s (sc.rf I) hk hj⟩
theorem uX_i (I : pI) (r sd w : Int32) (a b : Nat) : uX I r sd w a b = if a = 108 ∧ b = 8 then sd else if a = 108 ∧ b = 7 then r else if ¬ w = -1 ∧ a = 115 ∧ b = w.toNatClampNeg then I 115 b + 1 else I a b := by
  have e : ∀ a b, uI I r sd a b = if a = 108 ∧ b = 8 then sd else if a = 108 ∧ b = 7 then r else I a b := fun a b => by unfold uI; rw [mm_u_i, mm_u_i]
  unfold uX
  by_cases z : w = -1
  · rw [if_pos z, e]
    by_cases u1 : a = 108 ∧ b = 8
    · rw [if_pos u1, if_pos u1]
    · rw [if_neg u1, if_neg u1]
      by_cases u2 : a = 108 ∧ b = 7
      · rw [if_pos u2, if_pos u2]
      · rw [if_neg u2, if_neg u2, if_neg (fun q => q.1 z)]
  · rw [if_neg z, mm_u_i, e]
    by_cases u3 : a = 115 ∧ b = w.toNatClampNeg
    · rw [if_pos u3, if_neg (by omega), if_neg (by omega), if_pos ⟨z, u3⟩, u3.2]
    · rw [if_neg u3, if_neg (c := ¬ w = -1 ∧ a = 115 ∧ b = w.toNatClampNeg) (fun q => u3 q.2)]
end P98k
