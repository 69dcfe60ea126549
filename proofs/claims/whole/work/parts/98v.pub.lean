/-! PUBLIC METHODS: field: the text, as functions -/
section P98v
variable {I C J K : pI} {L : pL} {N S : Nat} {t : Nat → Int32}

/-- how many letters of a word stand at place p of the text -/
def y_lk (t : Nat → Int32) : List Int32 → Nat → Nat
  | [], _ => 0
  | x :: w, p => if t p = x then y_lk t w (p + 1) + 1 else 0
theorem y_lk_le (w : List Int32) : ∀ p, y_lk t w p ≤ w.length := by
  induction w with
  | nil => intro p; exact Nat.le_refl 0
  | cons x w ih =>
    intro p
    rw [y_lk, List.length_cons]
    split
    · exact Nat.succ_le_succ (ih (p + 1))
    · omega
theorem y_lk_j (w : List Int32) : ∀ p j, j < y_lk t w p → t (p + j) = w.getD j 0 := by
  induction w with
  | nil => intro p j h; exact absurd h (Nat.not_lt_zero j)
  | cons x w ih =>
    intro p j h
    rw [y_lk] at h
    split at h
    · rename_i h1
      cases j with
      | zero => exact h1
      | succ j =>
        have := ih (p + 1) j (by omega)
        rw [show p + (j + 1) = p + 1 + j by omega]
        exact this
    · exact absurd h (Nat.not_lt_zero j)
theorem y_lk_s (w : List Int32) : ∀ p j, j ≤ y_lk t w p → j < w.length → t (p + j) = w.getD j 0 → j + 1 ≤ y_lk t w p := by
  induction w with
  | nil => intro p j _ h; exact absurd h (Nat.not_lt_zero j)
  | cons x w ih =>
    intro p j h h2 h3
    rw [y_lk] at h ⊢
    cases j with
    | zero =>
      rw [if_pos (show t p = x from h3)]
      omega
    | succ j =>
      split at h
      · rename_i h1
        rw [if_pos h1]
        have := ih (p + 1) j (by omega) (by rw [List.length_cons] at h2; omega) (by rw [show p + 1 + j = p + (j + 1) by omega]; exact h3)
        omega
      · omega
theorem y_lk_e {w : List Int32} {p j : Nat} (h : j ≤ y_lk t w p) (h2 : ¬ t (p + j) = w.getD j 0) : y_lk t w p = j := by
  by_cases z : j < y_lk t w p
  · exact absurd (y_lk_j w p j z) h2
  · omega
theorem y_lk_f {w : List Int32} {p j : Nat} (h : j ≤ y_lk t w p) (h2 : ¬ j < w.length) : y_lk t w p = j := by
  have := y_lk_le (t := t) w p
  omega
def y_W (t : Nat → Int32) (p w : Nat) : Prop := y_lk t (mm_sy w) p = (mm_sy w).length
set_option maxRecDepth 10000 in
theorem sy_pre : ∀ w, w < 8 → ∀ w', w' < 8 → w ≠ w' → ¬ ((mm_sy w).length ≤ (mm_sy w').length ∧ ∀ j, j < (mm_sy w).length → (mm_sy w).getD j 0 = (mm_sy w').getD j 0) := by decide +kernel
theorem sy_len : ∀ w, w < 8 → 2 ≤ (mm_sy w).length ∧ (mm_sy w).length ≤ 5 := by decide
theorem y_W_lt {p w w' : Nat} (h : y_W t p w) (hw : w < 8) (hw' : w' < 8) (hne : w ≠ w') : y_lk t (mm_sy w') p < (mm_sy w).length := by
  by_cases z : y_lk t (mm_sy w') p < (mm_sy w).length
  · exact z
  · exfalso
    refine sy_pre w hw w' hw' hne ⟨by have := y_lk_le (t := t) (mm_sy w') p; omega, fun j hj => ?_⟩
    exact (y_lk_j (t := t) (mm_sy w) p j (by rw [show y_lk t (mm_sy w) p = _ from h]; exact hj)).symm.trans (y_lk_j (t := t) (mm_sy w') p j (by omega))
theorem y_W_u {p w w' : Nat} (h : y_W t p w) (h' : y_W t p w') (hw : w < 8) (hw' : w' < 8) : w = w' := by
  by_cases z : w = w'
  · exact z
  · have a := y_W_lt h hw hw' z
    have b := y_W_lt h' hw' hw (Ne.symm z)
    unfold y_W at h h'
    omega
/-- the word at place p; 8: none -/
def y_fw (t : Nat → Int32) (p : Nat) : Nat → Nat
  | 0 => 8
  | n + 1 => if y_lk t (mm_sy n) p = (mm_sy n).length then n else y_fw t p n
def y_wd (t : Nat → Int32) (p : Nat) : Nat := y_fw t p 8
theorem y_wd_w {p w : Nat} (h : y_W t p w) (hw : w < 8) : y_wd t p = w := by
  have : ∀ n, n ≤ 8 → w < n → y_fw t p n = w := by
    intro n
    induction n with
    | zero => intro _ h; exact absurd h (Nat.not_lt_zero w)
    | succ n ih =>
      intro hn h1
      rw [y_fw]
      by_cases z : y_lk t (mm_sy n) p = (mm_sy n).length
      · rw [if_pos z]; exact y_W_u z h (by omega) hw
      · rw [if_neg z]
        refine ih (by omega) ?_
        have : w ≠ n := fun q => z (by rw [← q]; exact h)
        omega
  exact this 8 (Nat.le_refl 8) hw
theorem y_wd_n {p : Nat} (h : ∀ w, w < 8 → ¬ y_W t p w) : y_wd t p = 8 := by
  have : ∀ n, n ≤ 8 → y_fw t p n = 8 := by
    intro n
    induction n with
    | zero => intro _; rfl
    | succ n ih => intro hn; rw [y_fw, if_neg (show ¬ y_lk t (mm_sy n) p = (mm_sy n).length from h n (by omega))]; exact ih (by omega)
  exact this 8 (Nat.le_refl 8)
/-- the most letters that stand, of the first n words; with the blank behind them -/
def y_mx (t : Nat → Int32) (p : Nat) : Nat → Nat
  | 0 => 0
  | n + 1 => max (y_mx t p n) (y_lk t (mm_sy n) p)
def y_mb (t : Nat → Int32) (p : Nat) : Nat → Nat
  | 0 => 0
  | n + 1 => max (y_mb t p n) (y_lk t (mm_sy n ++ [32]) p)
theorem y_lb (w : List Int32) : ∀ p, y_lk t (w ++ [32]) p = if y_lk t w p = w.length then (if t (p + w.length) = 32 then w.length + 1 else w.length) else y_lk t w p := by
  induction w with
  | nil => intro p; simp [y_lk]
  | cons x w ih =>
    intro p
    rw [List.cons_append, y_lk, y_lk, List.length_cons]
    by_cases h : t p = x
    · rw [if_pos h, if_pos h, ih (p + 1), show p + 1 + w.length = p + (w.length + 1) by omega]
      by_cases z : y_lk t w (p + 1) = w.length
      · rw [if_pos z, if_pos (show y_lk t w (p + 1) + 1 = w.length + 1 by omega)]
        split <;> rfl
      · rw [if_neg z, if_neg (show ¬ y_lk t w (p + 1) + 1 = w.length + 1 by omega)]
    · rw [if_neg h, if_neg h, if_neg (by omega)]
theorem y_mb_n {p : Nat} (h : ∀ w, w < 8 → ¬ y_W t p w) : ∀ n, n ≤ 8 → y_mb t p n = y_mx t p n := by
  intro n
  induction n with
  | zero => intro _; rfl
  | succ n ih => intro hn; rw [y_mb, y_mx, ih (by omega), y_lb, if_neg (show ¬ y_lk t (mm_sy n) p = (mm_sy n).length from h n (by omega))]
theorem y_mb_w {p w : Nat} (h : y_W t p w) (hw : w < 8) (hb : ¬ t (p + (mm_sy w).length) = 32) : y_mb t p 8 = (mm_sy w).length := by
  have h1 : ∀ n, n ≤ 8 → y_mb t p n ≤ (mm_sy w).length ∧ (w < n → (mm_sy w).length ≤ y_mb t p n) := by
    intro n
    induction n with
    | zero => intro _; exact ⟨Nat.zero_le _, fun q => absurd q (Nat.not_lt_zero w)⟩
    | succ n ih =>
      intro hn
      obtain ⟨a, b⟩ := ih (by omega)
      rw [y_mb, y_lb]
      by_cases z : n = w
      · rw [z, if_pos (show y_lk t (mm_sy w) p = (mm_sy w).length from h), if_neg hb]
        rw [z] at a
        exact ⟨by omega, fun _ => by omega⟩
      · have := y_W_lt h hw (by omega : n < 8) (Ne.symm z)
        have hn2 : ¬ y_lk t (mm_sy n) p = (mm_sy n).length := fun q => z (y_W_u q h (by omega) hw)
        rw [if_neg hn2]
        exact ⟨by omega, fun q => by have := b (by omega); omega⟩
  have := h1 8 (Nat.le_refl 8)
  have := this.2 hw
  omega
theorem y_mx_le (p : Nat) : ∀ n, n ≤ 8 → y_mx t p n ≤ 5 := by
  intro n
  induction n with
  | zero => intro _; exact Nat.zero_le _
  | succ n ih =>
    intro hn
    have := ih (by omega)
    have := y_lk_le (t := t) (mm_sy n) p
    have := (sy_len n (by omega)).2
    rw [y_mx]
    omega
/-- a number's digits: the value, the place behind them -/
def y_nv (t : Nat → Int32) : Nat → Nat → Int32 → Int32 × Nat
  | 0, p, x => (x, p)
  | n + 1, p, x => if 48 ≤ t p ∧ t p ≤ 57 then y_nv t n (p + 1) (10 * x + t p - 48) else (x, p)
theorem y_nv_t {n p : Nat} {x : Int32} (h : 48 ≤ t p ∧ t p ≤ 57) : y_nv t (n + 1) p x = y_nv t n (p + 1) (10 * x + t p - 48) := if_pos h
theorem y_nv_f {n p : Nat} {x : Int32} (h : ¬ (48 ≤ t p ∧ t p ≤ 57)) : y_nv t (n + 1) p x = (x, p) := if_neg h
theorem dg_step {x y : Int32} {b : Int} (hx : wi x 0 b) (hb : b ≤ 99) (hy : 48 ≤ y ∧ y ≤ 57) : wi (10 * x + y - 48) 0 (10 * b + 9) := by
  have e10 : (10 : Int32).toInt = 10 := by decide
  have e48 : (48 : Int32).toInt = 48 := by decide
  have e57 : (57 : Int32).toInt = 57 := by decide
  obtain ⟨x0, x1⟩ := hx
  obtain ⟨y0, y1⟩ := hy
  rw [ti_le, e48] at y0
  rw [ti_le, e57] at y1
  have e1 : (10 * x).toInt = 10 * x.toInt := by
    rw [Int32.toInt_mul, e10]
    exact Int.bmod_eq_of_le (by omega) (by omega)
  have e2 : (10 * x + y).toInt = 10 * x.toInt + y.toInt := by rw [ti_add (by omega) (by omega), e1]
  have e3 : (10 * x + y - 48).toInt = 10 * x.toInt + y.toInt - 48 := by rw [ti_sub (by omega) (by omega), e2, e48]
  unfold wi
  omega
theorem y_nv_w (p : Nat) : wi (y_nv t 3 p 0).1 0 999 ∧ p ≤ (y_nv t 3 p 0).2 ∧ (y_nv t 3 p 0).2 ≤ p + 3 := by
  have w0 : wi (0 : Int32) 0 0 := ⟨by decide, by decide⟩
  by_cases h1 : 48 ≤ t p ∧ t p ≤ 57
  · rw [y_nv_t h1]
    have w1 := dg_step w0 (by omega) h1
    by_cases h2 : 48 ≤ t (p + 1) ∧ t (p + 1) ≤ 57
    · rw [y_nv_t h2]
      have w2 := dg_step w1 (by omega) h2
      by_cases h3 : 48 ≤ t (p + 1 + 1) ∧ t (p + 1 + 1) ≤ 57
      · rw [y_nv_t h3]
        have w3 := dg_step w2 (by omega) h3
        refine ⟨⟨w3.1, ?_⟩, ?_, ?_⟩
        · have := w3.2; show (10 * (10 * (10 * 0 + t p - 48) + t (p + 1) - 48) + t (p + 1 + 1) - 48 : Int32).toInt ≤ 999; omega
        · show p ≤ p + 1 + 1 + 1; omega
        · show p + 1 + 1 + 1 ≤ p + 3; omega
      · rw [y_nv_f h3]
        refine ⟨⟨w2.1, ?_⟩, ?_, ?_⟩
        · have := w2.2; show (10 * (10 * 0 + t p - 48) + t (p + 1) - 48 : Int32).toInt ≤ 999; omega
        · show p ≤ p + 1 + 1; omega
        · show p + 1 + 1 ≤ p + 3; omega
    · rw [y_nv_f h2]
      refine ⟨⟨w1.1, ?_⟩, ?_, ?_⟩
      · have := w1.2; show (10 * 0 + t p - 48 : Int32).toInt ≤ 999; omega
      · show p ≤ p + 1; omega
      · show p + 1 ≤ p + 3; omega
  · rw [y_nv_f h1]
    exact ⟨⟨show 0 ≤ (0 : Int32).toInt by decide, show (0 : Int32).toInt ≤ 999 by decide⟩, Nat.le_refl _, by show p ≤ p + 3; omega⟩
theorem y_nv_E {E : Nat} (ht : ∀ p, E ≤ p → t p = 0) (n : Nat) : ∀ (p : Nat) (x : Int32), p ≤ E → (y_nv t n p x).2 ≤ E := by
  induction n with
  | zero => intro p x h; exact h
  | succ n ih =>
    intro p x h
    by_cases z : 48 ≤ t p ∧ t p ≤ 57
    · rw [y_nv_t z]
      refine ih (p + 1) _ ?_
      by_cases q : E ≤ p
      · rw [ht p q] at z; exact absurd z.1 (by decide)
      · omega
    · rw [y_nv_f z]; exact h
/-- the numbers of an item: n more from number i on, their blank at place q -/
def y_ns (t : Nat → Int32) (lo hi : Nat → Int32) : Nat → Nat → Nat → (Nat → Int32) → Nat ⊕ (Nat × (Nat → Int32))
  | 0, _, q, f => .inr (q, f)
  | n + 1, i, q, f => if t q = 32 then (if (y_nv t 3 (q + 1) 0).2 = q + 1 ∨ ¬ (lo i ≤ (y_nv t 3 (q + 1) 0).1 ∧ (y_nv t 3 (q + 1) 0).1 ≤ hi i) then .inl (q + 1) else y_ns t lo hi n (i + 1) (y_nv t 3 (q + 1) 0).2 (yu f i (y_nv t 3 (q + 1) 0).1)) else .inl q
theorem y_ns_b {lo hi : Nat → Int32} {n i q : Nat} {f : Nat → Int32} (h : ¬ t q = 32) : y_ns t lo hi (n + 1) i q f = .inl q := if_neg h
theorem y_ns_e {lo hi : Nat → Int32} {n i q : Nat} {f : Nat → Int32} (h : t q = 32) (h2 : (y_nv t 3 (q + 1) 0).2 = q + 1 ∨ ¬ (lo i ≤ (y_nv t 3 (q + 1) 0).1 ∧ (y_nv t 3 (q + 1) 0).1 ≤ hi i)) : y_ns t lo hi (n + 1) i q f = .inl (q + 1) := (if_pos h).trans (if_pos h2)
theorem y_ns_k {lo hi : Nat → Int32} {n i q : Nat} {f : Nat → Int32} (h : t q = 32) (h2 : ¬ ((y_nv t 3 (q + 1) 0).2 = q + 1 ∨ ¬ (lo i ≤ (y_nv t 3 (q + 1) 0).1 ∧ (y_nv t 3 (q + 1) 0).1 ≤ hi i))) : y_ns t lo hi (n + 1) i q f = y_ns t lo hi n (i + 1) (y_nv t 3 (q + 1) 0).2 (yu f i (y_nv t 3 (q + 1) 0).1) := (if_pos h).trans (if_neg h2)
/-- an item or a text: at fault at a place, or read -/
def oIm {α β : Type} (R : α ⊕ (β × pI)) (A : α → Prop) (B : β → pI → Prop) : Prop := match R with
  | .inl e => A e
  | .inr q => B q.1 q.2
def y_cn (w : Nat) : Nat := if w = 0 then 3 else if w < 4 then 2 else 1
def y_lo (w i : Nat) : Int32 := if w = 0 then (if i = 2 then 1 else 0) else if w = 1 then (if i = 0 then 1 else 0) else if w < 4 then 0 else if w < 6 then 1 else 0
def y_hi (V : pI) (w i : Nat) : Int32 := if w = 0 then (if i = 0 then 6 else 9) else if w = 1 then 9 else if w = 2 then (if i = 0 then V 108 0 - 1 else V 108 1 - 1) else if w = 3 then (if i = 0 then V 108 0 - 1 else 99) else if w = 4 then 200 else if w = 5 then 20 else if w = 6 then 9 else 60
def y_fu (V : pI) (w : Nat) : Prop := (w = 0 ∧ V 108 0 = 8) ∨ (w = 1 ∧ V 108 1 = 8)
def y_ef (V : pI) (w : Nat) (f : Nat → Int32) : pI := if w = 0 then v_ch V (V 108 0).toNatClampNeg (V 108 1).toNatClampNeg (f 0) (f 1) (f 2) else if w = 1 then v_sk V (V 108 1).toNatClampNeg (f 0) (f 1) else if w = 2 then mm_u V 113 (f 0).toNatClampNeg (f 1) else if w = 3 then mm_u V 114 (f 0).toNatClampNeg (f 1) else mm_u V 108 (w - 2) (f 0)
def y_im (t : Nat → Int32) (V : pI) (p : Nat) : Nat ⊕ (Nat × pI) :=
  if y_wd t p = 8 then .inl (p + y_mx t p 8)
  else if (y_wd t p = 0 ∧ V 108 0 = 8) ∨ (y_wd t p = 1 ∧ V 108 1 = 8) then .inl p
  else match y_ns t (y_lo (y_wd t p)) (y_hi V (y_wd t p)) (y_cn (y_wd t p)) 0 (p + (mm_sy (y_wd t p)).length) y_g0 with
    | .inl e => .inl e
    | .inr q => .inr (q.1, y_ef V (y_wd t p) q.2)

theorem y_im_n {V : pI} {p : Nat} (h : ∀ w, w < 8 → ¬ y_W t p w) : y_im t V p = .inl (p + y_mx t p 8) := if_pos (y_wd_n h)
theorem y_im_f {V : pI} {p w : Nat} (h : y_W t p w) (hw : w < 8) (h2 : y_fu V w) : y_im t V p = .inl p := by
  unfold y_im
  rw [y_wd_w h hw, if_neg (by omega)]
  exact if_pos h2
theorem y_im_e {V : pI} {p w e : Nat} (h : y_W t p w) (hw : w < 8) (h2 : ¬ y_fu V w) (h3 : y_ns t (y_lo w) (y_hi V w) (y_cn w) 0 (p + (mm_sy w).length) y_g0 = .inl e) : y_im t V p = .inl e := by
  unfold y_im
  rw [y_wd_w h hw, if_neg (by omega), if_neg (show ¬ ((w = 0 ∧ V 108 0 = 8) ∨ (w = 1 ∧ V 108 1 = 8)) from h2), h3]
theorem y_im_k {V : pI} {p w q : Nat} {f : Nat → Int32} (h : y_W t p w) (hw : w < 8) (h2 : ¬ y_fu V w) (h3 : y_ns t (y_lo w) (y_hi V w) (y_cn w) 0 (p + (mm_sy w).length) y_g0 = .inr (q, f)) : y_im t V p = .inr (q, y_ef V w f) := by
  unfold y_im
  rw [y_wd_w h hw, if_neg (by omega), if_neg (show ¬ ((w = 0 ∧ V 108 0 = 8) ∨ (w = 1 ∧ V 108 1 = 8)) from h2), h3]
/-- the text from place p on, at item k; n: enough -/
def y_rd (t : Nat → Int32) (E : Nat) : Nat → Nat → Nat → pI → (Nat × Nat) ⊕ (Nat × pI)
  | 0, k, p, _ => .inl (p, k)
  | n + 1, k, p, V => match y_im t V p with
    | .inl e => .inl (e, k)
    | .inr q => if E ≤ q.1 then .inr (k, q.2) else if t q.1 = 59 then y_rd t E n (k + 1) (q.1 + 1) q.2 else .inl (q.1, k)
theorem y_rd_e {E n k p e : Nat} {V : pI} (h : y_im t V p = .inl e) : y_rd t E (n + 1) k p V = .inl (e, k) := by rw [y_rd, h]
theorem y_rd_k {E n k p q : Nat} {V V' : pI} (h : y_im t V p = .inr (q, V')) (h2 : E ≤ q) : y_rd t E (n + 1) k p V = .inr (k, V') := by rw [y_rd, h]; exact if_pos h2
theorem y_rd_s {E n k p q : Nat} {V V' : pI} (h : y_im t V p = .inr (q, V')) (h2 : ¬ E ≤ q) (h3 : t q = 59) : y_rd t E (n + 1) k p V = y_rd t E n (k + 1) (q + 1) V' := by rw [y_rd, h]; exact (if_neg h2).trans (if_pos h3)
theorem y_rd_x {E n k p q : Nat} {V V' : pI} (h : y_im t V p = .inr (q, V')) (h2 : ¬ E ≤ q) (h3 : ¬ t q = 59) : y_rd t E (n + 1) k p V = .inl (q, k) := by rw [y_rd, h]; exact (if_neg h2).trans (if_neg h3)
/-- where numbers end, and that each may be -/
theorem y_ns_q {E : Nat} (ht : ∀ p, E ≤ p → t p = 0) {lo hi : Nat → Int32} (n : Nat) : ∀ (i q : Nat) (f : Nat → Int32), q ≤ E → match y_ns t lo hi n i q f with
    | .inl e => e ≤ E
    | .inr r => q + 2 * n ≤ r.1 ∧ r.1 ≤ E ∧ (∀ j, j < i → r.2 j = f j) ∧ ∀ j, i ≤ j → j < i + n → lo j ≤ r.2 j ∧ r.2 j ≤ hi j ∧ wi (r.2 j) 0 999 := by
  induction n with
  | zero => intro i q f hq; exact ⟨Nat.le_refl _, hq, fun _ _ => rfl, fun j h1 h2 => absurd h2 (by omega)⟩
  | succ n ih =>
    intro i q f hq
    by_cases h : t q = 32
    · have hqE : q < E := by
        by_cases z : q < E
        · exact z
        · rw [ht q (by omega)] at h; exact absurd h (by decide)
      by_cases h2 : (y_nv t 3 (q + 1) 0).2 = q + 1 ∨ ¬ (lo i ≤ (y_nv t 3 (q + 1) 0).1 ∧ (y_nv t 3 (q + 1) 0).1 ≤ hi i)
      · rw [y_ns_e h h2]; exact hqE
      · rw [y_ns_k h h2]
        obtain ⟨w1, w2, w3⟩ := y_nv_w (t := t) (q + 1)
        have := ih (i + 1) (y_nv t 3 (q + 1) 0).2 (yu f i (y_nv t 3 (q + 1) 0).1) (y_nv_E ht 3 _ _ (by omega))
        revert this
        cases y_ns t lo hi n (i + 1) (y_nv t 3 (q + 1) 0).2 (yu f i (y_nv t 3 (q + 1) 0).1) with
        | inl e => exact id
        | inr r =>
          rintro ⟨a1, a2, a3, a4⟩
          have h3 := not_or.mp h2
          refine ⟨by have := h3.1; omega, a2, fun j hj => ?_, fun j h1 h4 => ?_⟩
          · rw [a3 j (by omega), yu_o _ _ (by omega)]
          · by_cases y : j = i
            · rw [y, a3 i (by omega), yu_s]
              have := Classical.not_not.mp h3.2
              exact ⟨this.1, this.2, w1⟩
            · exact a4 j (by omega) (by omega)
    · rw [y_ns_b h]; exact hq
end P98v
