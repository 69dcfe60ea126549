/-! PUBLIC METHODS: race, summer: the seconds of the class -/
section P96
variable {I C J : pI} {L : pL} {N S : Nat}

def yu {α : Type} (f : Nat → α) (c : Nat) (x : α) : Nat → α := fun k => if k = c then x else f k
theorem yu_s {α : Type} (f : Nat → α) (c : Nat) (x : α) : yu f c x c = x := if_pos rfl
theorem yu_o {α : Type} (f : Nat → α) {c k : Nat} (x : α) (h : k ≠ c) : yu f c x k = f k := if_neg h
/-- the places, breaths and downs; the times; the seed -/
abbrev yT : Type := (Nat → rS) × (Nat → Int32) × Int32
def y_ro (I : pI) (c i : Nat) : Int32 := if 999 < nI i + m_ro (I 108 4) (I 112 c) then 999 else nI i + m_ro (I 108 4) (I 112 c)
def y_tc (I : pI) (c : Nat) (s : rS) (x : Int32) : rS := y_t3 (I 108 6) (I 108 3) (q_st I c) (k_puff (I 110 c)) (q_ri I c) s x
def y_r2 (I : pI) (i c : Nat) (t : yT) (sn x : Int32) : yT := (yu t.1 c (y_tc I c (t.1 c) x), (if I 108 2 ≤ (y_tc I c (t.1 c) x).1 then yu t.2.1 c (y_ro I c i) else t.2.1), y_sd (t.1 c) t.2.2 sn)
def y_r1 (I : pI) (i c : Nat) (t : yT) : yT := if I 108 2 ≤ (t.1 c).1 then t else y_r2 I i c t (i_next t.2.2) (i_draw (i_next t.2.2) 100)
def y_rr (I : pI) (i : Nat) : Nat → yT → yT
  | 0, t => t
  | n + 1, t => y_r1 I i n (y_rr I i n t)
def y_ra (I : pI) (N : Nat) : Nat → Nat → yT → yT
  | 0, _, t => t
  | n + 1, i, t => y_ra I N n (i + 1) (y_rr I i N t)
/-- the class's row of a racer i seconds on -/
def rwI (I : pI) (c i : Nat) (ρ : mRow) (s : rS) (x : Int32) : Prop := r3 ρ = s ∧ wi (ρ 10) 0 60 ∧ ρ 2 = I 108 6 ∧ ρ 3 = I 108 2 ∧ ρ 4 = I 108 3 ∧ ρ 5 = m_ro (I 108 4) (I 112 c) ∧ ρ 6 = q_st I c ∧ ρ 7 = k_puff (I 110 c) ∧ ρ 8 = q_ri I c ∧ (¬ I 108 2 ≤ s.1 → ρ 15 = nI i ∧ x = 999) ∧ (I 108 2 ≤ s.1 → r_time ρ = x)
theorem rwI.fin {c i j : Nat} {ρ : mRow} {s : rS} {x : Int32} (h : rwI I c i ρ s x) (z : I 108 2 ≤ s.1) : rwI I c j ρ s x := by
  obtain ⟨h1, h2, h3, h4, h5, h6, h7, h8, h9, h10, h11⟩ := h
  exact ⟨h1, h2, h3, h4, h5, h6, h7, h8, h9, fun q => absurd z q, h11⟩
theorem rwI.s (v : vN I N S) {c i : Nat} (hc : c < 8) {ρ ρ' : mRow} {s : rS} {x y : Int32} (h : rwI I c i ρ s x) (z : ¬ I 108 2 ≤ s.1) (e1 : r3 ρ' = y_t3 (ρ 2) (ρ 4) (ρ 6) (ρ 7) (ρ 8) (r3 ρ) y) (e2 : ρ' 15 = ρ 15 + 1) (e3 : ∀ j, j < 9 → ρ' j = ρ j) : rwI I c (i + 1) ρ' (y_tc I c s y) (if I 108 2 ≤ (y_tc I c s y).1 then y_ro I c (i + 1) else x) := by
  obtain ⟨h1, h2, h3, h4, h5, h6, h7, h8, h9, h10, h11⟩ := h
  have e : r3 ρ' = y_tc I c s y := by rw [e1, h3, h5, h7, h8, h9, h1]; rfl
  have hw : wi (ρ' 10) 0 60 := by
    have : wi (y_t3 (ρ 2) (ρ 4) (ρ 6) (ρ 7) (ρ 8) (r3 ρ) y).2.1 0 60 := y_t3_w h2 (by rw [h8]; exact puff_wi (isKd_wi (v.k hc).1))
    rw [← e1] at this
    exact this
  have e9 : ρ' 9 = (y_tc I c s y).1 := congrArg (fun q : rS => q.1) e
  refine ⟨e, hw, by rw [e3 2 (by omega), h3], by rw [e3 3 (by omega), h4], by rw [e3 4 (by omega), h5], by rw [e3 5 (by omega), h6], by rw [e3 6 (by omega), h7], by rw [e3 7 (by omega), h8], by rw [e3 8 (by omega), h9], fun q => ?_, fun q => ?_⟩
  · rw [if_neg q, e2, (h10 z).1]
    exact ⟨nI_1 i, (h10 z).2⟩
  · rw [if_pos q]
    unfold r_time
    rw [e9, e3 3 (by omega), h4, if_neg (Int32.not_lt.mpr q), min999, e2, (h10 z).1, e3 5 (by omega), h6, nI_1]
    rfl
theorem se_rr (v : vN I N S) (i : Nat) {M : pI} {t : yT} (hr : ∀ c, c < N → rwI I c i (M (92 + 2 * c)) (t.1 c) (t.2.1 c)) (hsd : M 1 7 = t.2.2) (n : Nat) : n ≤ N → ∃ K h, x_se M n = (K, nI h) ∧ h ≤ n ∧ (∀ c, c < N → rwI I c (if c < n then i + 1 else i) (K (92 + 2 * c)) ((y_rr I (i + 1) n t).1 c) ((y_rr I (i + 1) n t).2.1 c)) ∧ K 1 7 = (y_rr I (i + 1) n t).2.2 ∧ (h = 0 → y_rr I (i + 1) n t = t ∧ ∀ c, c < n → I 108 2 ≤ (t.1 c).1) ∧ (∀ k, k ≠ 1 → k < 92 ∨ 107 < k → K k = M k) ∧ ∀ j, j ≠ 7 → K 1 j = M 1 j := by
  have hN8 := v.1
  induction n with
  | zero => intro _; exact ⟨M, 0, rfl, Nat.le_refl 0, fun c hc => by rw [if_neg (Nat.not_lt_zero c)]; exact hr c hc, hsd, fun _ => ⟨rfl, fun c hc => absurd hc (Nat.not_lt_zero c)⟩, fun _ _ _ => rfl, fun _ _ => rfl⟩
  | succ n ih =>
    intro hn
    obtain ⟨K, h, k1, k2, k3, k4, k5, k6, k7⟩ := ih (by omega)
    have hx : x_se M (n + 1) = x_seS (K, nI h) (92 + 2 * n) := by rw [x_se, k1, nI_clamp (by omega)]
    have hy : y_rr I (i + 1) (n + 1) t = y_r1 I (i + 1) n (y_rr I (i + 1) n t) := rfl
    generalize y_rr I (i + 1) n t = u at *
    have hn3 := k3 n (by omega)
    rw [if_neg (Nat.lt_irrefl n)] at hn3
    obtain ⟨h1, h2, h3, h4, h5, h6, h7, h8, h9, h10, h11⟩ := id hn3
    have e9 : K (92 + 2 * n) 9 = (u.1 n).1 := congrArg (fun q : rS => q.1) h1
    by_cases z : I 108 2 ≤ (u.1 n).1
    · have ey : y_r1 I (i + 1) n u = u := if_pos z
      refine ⟨K, h, by rw [hx]; exact x_se_a (p := (K, nI h)) (by show K (92 + 2 * n) 3 ≤ K (92 + 2 * n) 9; rw [h4, e9]; exact z), by omega, fun c hc => ?_, by rw [hy, ey]; exact k4, fun q => ?_, k6, k7⟩
      · rw [hy, ey]
        by_cases y : c = n
        · rw [y, if_pos (by omega)]; exact hn3.fin z
        · have := k3 c hc
          by_cases w : c < n
          · rw [if_pos w] at this; rw [if_pos (by omega)]; exact this
          · rw [if_neg w] at this; rw [if_neg (by omega)]; exact this
      · obtain ⟨q1, q2⟩ := k5 q
        refine ⟨by rw [hy, ey, q1], fun c hc => ?_⟩
        by_cases y : c = n
        · rw [y, ← q1]; exact z
        · exact q2 c (by omega)
    · obtain ⟨sn, hsn⟩ : ∃ sn, i_next (K 1 7) = sn := ⟨_, rfl⟩
      obtain ⟨x, hx3⟩ : ∃ x, i_draw sn 100 = x := ⟨_, rfl⟩
      have ey : y_r1 I (i + 1) n u = y_r2 I (i + 1) n u sn x := by
        unfold y_r1
        rw [if_neg z, ← k4, hsn, hx3]
      obtain ⟨K', a1, a2, a3, a4, a5, a6, a7⟩ := x_s3 (h := nI h) (r := 92 + 2 * n) (by omega) (by rw [h4, e9]; exact z) h2 (by rw [h8]; exact puff_wi (isKd_wi (v.k (c := n) (by omega)).1)) (by rw [h3]; exact v.2.2.2.2.2.2.2.2.1) hsn hx3
      refine ⟨K', h + 1, by rw [hx, a1, nI_1], by omega, fun c hc => ?_, ?_, fun q => absurd q (by omega), fun k q1 q2 => by rw [a6 k q1 (by omega)]; exact k6 k q1 q2, fun j hj => by rw [a7 j hj]; exact k7 j hj⟩
      · rw [hy, ey]
        by_cases y : c = n
        · rw [y, if_pos (by omega)]
          have := hn3.s v (by omega) z a2 a4 a5
          show rwI I n (i + 1) (K' (92 + 2 * n)) (yu u.1 n (y_tc I n (u.1 n) x) n) ((if I 108 2 ≤ (y_tc I n (u.1 n) x).1 then yu u.2.1 n (y_ro I n (i + 1)) else u.2.1) n)
          rw [yu_s]
          by_cases w : I 108 2 ≤ (y_tc I n (u.1 n) x).1
          · rw [if_pos w] at this ⊢; rw [yu_s]; exact this
          · rw [if_neg w] at this ⊢; exact this
        · have := k3 c hc
          rw [a6 (92 + 2 * c) (by omega) (by omega)]
          show rwI I c _ (K (92 + 2 * c)) (yu u.1 n (y_tc I n (u.1 n) x) c) ((if I 108 2 ≤ (y_tc I n (u.1 n) x).1 then yu u.2.1 n (y_ro I n (i + 1)) else u.2.1) c)
          rw [yu_o _ _ y, show (if I 108 2 ≤ (y_tc I n (u.1 n) x).1 then yu u.2.1 n (y_ro I n (i + 1)) else u.2.1) c = u.2.1 c by split; exact yu_o _ _ y; rfl]
          by_cases w : c < n
          · rw [if_pos w] at this; rw [if_pos (by omega)]; exact this
          · rw [if_neg w] at this; rw [if_neg (by omega)]; exact this
      · rw [hy, ey, a3]
        show y_sd (r3 (K (92 + 2 * n))) (K 1 7) sn = y_sd (u.1 n) u.2.2 sn
        rw [h1, k4]
end P96
