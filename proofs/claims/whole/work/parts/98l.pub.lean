/-! PUBLIC METHODS: race, summer: the relation after a race -/
section P98l
variable {I C J K : pI} {L : pL} {N S : Nat}

/-- what a race won by w, the seed then sd, leaves of the class's memory but for scratch -/
def uY (I : pI) (r sd w : Int32) : pI := fun a j => if a = 1 ∧ j = 6 then r else if a = 1 ∧ j = 7 then sd else if ¬ w = -1 ∧ a = 5 + w.toNatClampNeg ∧ j = 5 then I a 5 + 1 else I a j
theorem rF_race (hb : bR I N S) {r sd w : Int32} (hw : w = -1 ∨ w.toNatClampNeg < 8) : rF 1 (uY I r sd w) (uX I r sd w) := by
  obtain ⟨f1, f2, f3, f4, f5, f6, f7, f8⟩ := hb.2
  have o : ∀ a j, a ≠ 1 → (a < 5 ∨ 12 < a ∨ j ≠ 5) → uY I r sd w a j = I a j := fun a j h1 h2 => by
    unfold uY
    rw [if_neg (fun q => h1 q.1), if_neg (fun q => h1 q.1), if_neg]
    rintro ⟨q0, q1, q2⟩
    rcases hw with hw | hw
    · exact q0 hw
    · omega
  have p : ∀ a j, (a = 108 ∧ j < 7) ∨ (109 < a ∧ a ≠ 115) → uX I r sd w a j = I a j := fun a j h => by
    rw [uX_i, if_neg (by omega), if_neg (by omega), if_neg (by omega)]
  have o1 : ∀ j, j < 6 → uY I r sd w 1 j = I 1 j := fun j h => by
    unfold uY
    rw [if_neg (by omega), if_neg (by omega), if_neg (by omega)]
  unfold rF
  refine ⟨?_, ?_, ?_, ?_, ?_, fun q hq => ?_, fun c hc j hj => ?_, fun k hk j hj => ?_⟩
  · rw [o1 1 (by omega), p 108 0 (by omega)]; exact f1
  · rw [o1 3 (by omega), p 108 1 (by omega)]; exact f2
  · rw [o1 5 (by omega), p 108 6 (by omega)]; exact f3
  · rw [uX_i, if_neg (by omega), if_pos ⟨rfl, rfl⟩]; exact if_pos ⟨rfl, rfl⟩
  · rw [uX_i, if_pos ⟨rfl, rfl⟩]
    unfold uY
    rw [if_neg (by omega), if_pos ⟨rfl, rfl⟩]
  · rw [o _ _ (by omega) (by omega), p _ _ (by omega)]; exact f6 q hq
  · by_cases y : j = 5
    · subst y
      have := f7 c hc 5 (by omega)
      rw [uX_i, if_neg (by omega), if_neg (by omega)]
      unfold uY
      rw [if_neg (by omega), if_neg (by omega)]
      by_cases z : ¬ w = -1 ∧ c = w.toNatClampNeg
      · rw [if_pos ⟨z.1, by omega, rfl⟩, if_pos ⟨z.1, by omega, z.2⟩, this]
      · rw [if_neg (fun q => z ⟨q.1, by omega⟩), if_neg (fun q => z ⟨q.1, q.2.2⟩), this]
    · rw [o _ _ (by omega) (Or.inr (Or.inr y)), p _ _ (by omega)]; exact f7 c hc j hj
  · rw [o _ _ (by omega) (by omega), p _ _ (by omega)]; exact f8 k hk j hj
theorem RR_race (h : RR I L) (hb : bR I N S) {r sd w : Int32} (hw : w = -1 ∨ w.toNatClampNeg < 8) : RR (mg (uY I r sd w) (uX I r sd w)) L := by
  have p : ∀ a j, a ≠ 115 → (a = 108 → j ≠ 7 ∧ j ≠ 8) → uX I r sd w a j = I a j := fun a j h1 h2 => by
    rw [uX_i, if_neg (fun q => (h2 q.1).2 q.2), if_neg (fun q => (h2 q.1).1 q.2), if_neg (fun q => h1 q.2.1)]
  refine h.now2 (N1 := N) (S1 := S) ?_ (rF_race hb hw) (by rw [p 108 0 (by decide) (fun _ => by decide)]; exact Int32.le_refl _) (fun k a b => ?_) (fun k a b => ?_) (p _ _ (by decide) (fun _ => by decide)) (p _ _ (by decide) (fun _ => by decide)) (p _ _ (by decide) (fun _ => by decide))
  · have := hb.1
    unfold vN at *
    simp only [p 108 0 (by decide) (fun _ => by decide), p 108 1 (by decide) (fun _ => by decide), p 108 2 (by decide) (fun _ => by decide), p 108 3 (by decide) (fun _ => by decide), p 108 4 (by decide) (fun _ => by decide), p 108 5 (by decide) (fun _ => by decide), p 108 6 (by decide) (fun _ => by decide), fun c => p 110 c (by decide) (fun q => absurd q (by decide)), fun c => p 111 c (by decide) (fun q => absurd q (by decide)), fun c => p 112 c (by decide) (fun q => absurd q (by decide)), fun c => p 113 c (by decide) (fun q => absurd q (by decide)), fun c => p 114 c (by decide) (fun q => absurd q (by decide)), fun c => p 116 c (by decide) (fun q => absurd q (by decide)), fun c => p 117 c (by decide) (fun q => absurd q (by decide))]
    exact this
  · funext j
    unfold uY
    rw [if_neg (by omega), if_neg (by omega), if_neg]
    rintro ⟨q0, q1, q2⟩
    rcases hw with hw | hw
    · exact q0 hw
    · omega
  · funext j
    exact p k j (by omega) (fun q => absurd q (by omega))
end P98l
