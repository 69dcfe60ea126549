/-! PUBLIC METHODS: given: how sacks are given out, as a function -/
section P98q
variable {I C J K : pI} {L : pL} {N S : Nat}

theorem and1_01 (x : Int32) : x &&& 1 = 0 ∨ x &&& 1 = 1 := by
  have h : (x &&& 1).toBitVec = BitVec.setWidth 32 (BitVec.ofBool (x.toBitVec.getLsbD 0)) := by
    rw [Int32.toBitVec_and]
    exact BitVec.and_one_eq_setWidth_ofBool_getLsbD
  cases hb : x.toBitVec.getLsbD 0 with
  | false => left; apply Int32.toBitVec_inj.mp; rw [h, hb]; rfl
  | true => right; apply Int32.toBitVec_inj.mp; rw [h, hb]; rfl
/-- what a giving is worth -/
def y_va (law sum most least : Int32) : Int32 := if law = 0 then sum else if law = 1 then most else most - least
abbrev yP : Type := Int32 × (Nat → Int32)
def y_fo {α : Type} (f : Nat → α → α) : Nat → α → α
  | 0, p => p
  | n + 1, p => f n (y_fo f n p)
/-- gives to n more children, from child i on; p: the best by now -/
def y_gv (law : Int32) (T : Nat → Nat → Int32) (S : Nat) : Nat → Nat → Int32 → Int32 → Int32 → Int32 → (Nat → Int32) → yP → yP
  | 0, _, _, sum, most, least, g, p => if ¬ p.1 = -1 ∧ p.1 ≤ y_va law sum most least then p else (y_va law sum most least, g)
  | n + 1, i, met, sum, most, least, g, p => y_fo (fun s q => if (met >>> (nI s &&& 31)) &&& 1 = 1 then q else y_gv law T S n (i + 1) (met ||| ((1 : Int32) <<< (nI s &&& 31))) (sum + T i s) (i_max most (T i s)) (i_min least (T i s)) (yu g i (nI s)) q) S p
/-- one sack for child i -/
def y_gs (law : Int32) (T : Nat → Nat → Int32) (S n i : Nat) (met sum most least : Int32) (g : Nat → Int32) (s : Nat) (q : yP) : yP := if (met >>> (nI s &&& 31)) &&& 1 = 1 then q else y_gv law T S n (i + 1) (met ||| ((1 : Int32) <<< (nI s &&& 31))) (sum + T i s) (i_max most (T i s)) (i_min least (T i s)) (yu g i (nI s)) q
theorem y_gv_s (law : Int32) (T : Nat → Nat → Int32) (S n i : Nat) (met sum most least : Int32) (g : Nat → Int32) (p : yP) : y_gv law T S (n + 1) i met sum most least g p = y_fo (y_gs law T S n i met sum most least g) S p := rfl
theorem y_gs_t {law : Int32} {T : Nat → Nat → Int32} {n i : Nat} {met sum most least : Int32} {g : Nat → Int32} {s : Nat} {q : yP} (h : (met >>> (nI s &&& 31)) &&& 1 = 1) : y_gs law T S n i met sum most least g s q = q := if_pos h
theorem y_gs_f {law : Int32} {T : Nat → Nat → Int32} {n i : Nat} {met sum most least : Int32} {g : Nat → Int32} {s : Nat} {q : yP} (h : ¬ (met >>> (nI s &&& 31)) &&& 1 = 1) : y_gs law T S n i met sum most least g s q = y_gv law T S n (i + 1) (met ||| ((1 : Int32) <<< (nI s &&& 31))) (sum + T i s) (i_max most (T i s)) (i_min least (T i s)) (yu g i (nI s)) q := if_neg h
theorem y_fo_i {α : Type} {f : Nat → α → α} {P : α → Prop} {p : α} (h0 : P p) : ∀ n, (∀ s q, s < n → P q → P (f s q)) → P (y_fo f n p) := by
  intro n
  induction n with
  | zero => intro _; exact h0
  | succ n ih => intro h; exact h n _ (by omega) (ih fun s q a => h s q (by omega))
theorem y_fo_id {α : Type} {f : Nat → α → α} {p : α} : ∀ n, (∀ s, s < n → f s p = p) → y_fo f n p = p := by
  intro n
  induction n with
  | zero => intro _; rfl
  | succ n ih => intro h; rw [y_fo, ih fun s a => h s (by omega)]; exact h n (by omega)
theorem y_fo_h {α : Type} {f : Nat → α → α} {P Q : α → Prop} {p : α} {i : Nat} (hq : Q p) (hi : ∀ q, Q q → P (f i q)) : ∀ n, i < n → (∀ s q, s < n → Q q → Q (f s q)) → (∀ s q, s < n → Q q → P q → P (f s q)) → P (y_fo f n p) := by
  intro n
  induction n with
  | zero => intro h; exact absurd h (Nat.not_lt_zero i)
  | succ n ih =>
    intro h h1 h2
    have q := y_fo_i (f := f) hq n (fun s q a => h1 s q (by omega))
    by_cases z : n = i
    · rw [y_fo, z]; rw [z] at q; exact hi _ q
    · exact h2 n _ (by omega) q (ih (by omega) (fun s q a => h1 s q (by omega)) (fun s q a => h2 s q (by omega)))
/-- what is summed up over i children -/
def y_ok (i : Nat) (sum most least : Int32) : Prop := wi sum 0 (999 * i) ∧ wi most 0 999 ∧ wi least 0 999 ∧ (i = 0 ∨ least ≤ most)
theorem mm_in_5 {x : Int32} : mm_in x 5 = true ↔ 0 ≤ x ∧ x < 5 := mm_in_i (n := 5) (by omega)
theorem mm_in_40 {x : Int32} : mm_in x 40 = true ↔ 0 ≤ x ∧ x < 40 := mm_in_i (n := 40) (by omega)
theorem i_max_ti (x y : Int32) : x.toInt ≤ (i_max x y).toInt ∧ y.toInt ≤ (i_max x y).toInt ∧ (i_max x y = x ∨ i_max x y = y) := by
  unfold i_max
  by_cases h : x < y
  · rw [if_pos h]; rw [ti_lt] at h; exact ⟨by omega, by omega, Or.inr rfl⟩
  · rw [if_neg h]; rw [ti_lt] at h; exact ⟨by omega, by omega, Or.inl rfl⟩
theorem i_min_ti (x y : Int32) : (i_min x y).toInt ≤ x.toInt ∧ (i_min x y).toInt ≤ y.toInt ∧ (i_min x y = x ∨ i_min x y = y) := by
  unfold i_min
  by_cases h : y < x
  · rw [if_pos h]; rw [ti_lt] at h; exact ⟨by omega, by omega, Or.inr rfl⟩
  · rw [if_neg h]; rw [ti_lt] at h; exact ⟨by omega, by omega, Or.inl rfl⟩
theorem y_ok_s {i : Nat} {sum most least t : Int32} (h : y_ok i sum most least) (hi : i < 5) (ht : wi t 0 999) : y_ok (i + 1) (sum + t) (i_max most t) (i_min least t) := by
  obtain ⟨⟨a1, a2⟩, b, c, e⟩ := h
  obtain ⟨t1, t2⟩ := ht
  obtain ⟨m1, m2, m3⟩ := i_max_ti most t
  obtain ⟨l1, l2, l3⟩ := i_min_ti least t
  have es : (sum + t).toInt = sum.toInt + t.toInt := ti_add (by omega) (by omega)
  refine ⟨⟨?_, ?_⟩, ?_, ?_, Or.inr ?_⟩
  · rw [es]; omega
  · rw [es]; omega
  · rcases m3 with q | q
    · rw [q]; exact b
    · rw [q]; exact ⟨t1, t2⟩
  · rcases l3 with q | q
    · rw [q]; exact c
    · rw [q]; exact ⟨t1, t2⟩
  · rw [ti_le]; omega
theorem y_va_ti {i : Nat} {sum most least : Int32} (h : y_ok i sum most least) (law : Int32) : (y_va law sum most least).toInt = if law = 0 then sum.toInt else if law = 1 then most.toInt else most.toInt - least.toInt := by
  obtain ⟨a, ⟨b1, b2⟩, ⟨c1, c2⟩, e⟩ := h
  unfold y_va
  split
  · rfl
  · split
    · rfl
    · exact ti_sub (by omega) (by omega)
theorem y_va_w {i : Nat} {sum most least : Int32} (h : y_ok i sum most least) (hi : i ≤ 5) (law : Int32) : wi (y_va law sum most least) (-999) 4995 ∧ (0 < i → 0 ≤ (y_va law sum most least).toInt) := by
  have e := y_va_ti h law
  obtain ⟨⟨a1, a2⟩, ⟨b1, b2⟩, ⟨c1, c2⟩, d⟩ := h
  rw [ti_le] at d
  unfold wi
  rw [e]
  refine ⟨⟨?_, ?_⟩, fun z => ?_⟩
  · split
    · omega
    · split <;> omega
  · split
    · omega
    · split <;> omega
  · split
    · omega
    · split <;> omega
theorem y_va_m {i : Nat} {sum most least t : Int32} (h : y_ok i sum most least) (hi : i < 5) (ht : wi t 0 999) (law : Int32) : y_va law sum most least ≤ y_va law (sum + t) (i_max most t) (i_min least t) := by
  rw [ti_le, y_va_ti h law, y_va_ti (y_ok_s h hi ht) law]
  obtain ⟨⟨a1, a2⟩, b, c, e⟩ := h
  obtain ⟨t1, t2⟩ := ht
  obtain ⟨m1, m2, m3⟩ := i_max_ti most t
  obtain ⟨l1, l2, l3⟩ := i_min_ti least t
  have es : (sum + t).toInt = sum.toInt + t.toInt := ti_add (by omega) (by omega)
  rw [es]
  split
  · omega
  · split <;> omega
section Q
variable {law : Int32} {T : Nat → Nat → Int32} {k : Nat}
theorem y_gv_id (hk : k ≤ 5) (hT : ∀ c s, c < k → s < S → wi (T c s) 0 999) (n : Nat) : ∀ (i : Nat) (met sum most least : Int32) (g : Nat → Int32) (p : yP), i + n = k → y_ok i sum most least → ¬ p.1 = -1 → p.1 ≤ y_va law sum most least → y_gv law T S n i met sum most least g p = p := by
  induction n with
  | zero => intro i met sum most least g p hi h1 h2 h3; exact if_pos ⟨h2, h3⟩
  | succ n ih =>
    intro i met sum most least g p hi h1 h2 h3
    rw [y_gv_s]
    refine y_fo_id S fun s hs => ?_
    by_cases z : (met >>> (nI s &&& 31)) &&& 1 = 1
    · exact y_gs_t z
    · rw [y_gs_f z]
      have ht := hT i s (by omega) hs
      exact ih (i + 1) _ _ _ _ _ p (by omega) (y_ok_s h1 (by omega) ht) h2 (Int32.le_trans h3 (y_va_m h1 (by omega) ht law))
/-- a best that may be -/
def y_bo (p : yP) : Prop := p.1 = -1 ∨ wi p.1 0 4995
theorem y_gv_ok (k0 : 0 < k) (hk : k ≤ 5) (hT : ∀ c s, c < k → s < S → wi (T c s) 0 999) (n : Nat) : ∀ (i : Nat) (met sum most least : Int32) (g : Nat → Int32) (p : yP), i + n = k → y_ok i sum most least → y_bo p → y_bo (y_gv law T S n i met sum most least g p) ∧ (¬ p.1 = -1 → ¬ (y_gv law T S n i met sum most least g p).1 = -1) := by
  induction n with
  | zero =>
    intro i met sum most least g p hi h1 h2
    obtain ⟨w1, w2⟩ := y_va_w h1 (by omega) law
    have w3 := w2 (by omega)
    by_cases z : ¬ p.1 = -1 ∧ p.1 ≤ y_va law sum most least
    · rw [show y_gv law T S 0 i met sum most least g p = p from if_pos z]
      exact ⟨h2, id⟩
    · rw [show y_gv law T S 0 i met sum most least g p = (y_va law sum most least, g) from if_neg z]
      refine ⟨Or.inr ⟨w3, w1.2⟩, fun _ q => ?_⟩
      have q : y_va law sum most least = -1 := q
      rw [q, ti_n1] at w3
      omega
  | succ n ih =>
    intro i met sum most least g p hi h1 h2
    rw [y_gv_s]
    refine y_fo_i (P := fun q : yP => y_bo q ∧ (¬ p.1 = -1 → ¬ q.1 = -1)) ⟨h2, id⟩ S fun s q hs hq => ?_
    by_cases z : (met >>> (nI s &&& 31)) &&& 1 = 1
    · rw [y_gs_t z]; exact hq
    · rw [y_gs_f z]
      have ht := hT i s (by omega) hs
      obtain ⟨r1, r2⟩ := ih (i + 1) (met ||| ((1 : Int32) <<< (nI s &&& 31))) (sum + T i s) (i_max most (T i s)) (i_min least (T i s)) (yu g i (nI s)) q (by omega) (y_ok_s h1 (by omega) ht) hq.1
      exact ⟨r1, fun y => r2 (hq.2 y)⟩
/-- the first i sacks are given -/
def y_mt : Nat → Int32
  | 0 => 0
  | n + 1 => y_mt n ||| ((1 : Int32) <<< (nI n &&& 31))
theorem y_mt_b {i : Nat} (h : i < 5) : ¬ (y_mt i >>> (nI i &&& 31)) &&& 1 = 1 := by
  have : i = 0 ∨ i = 1 ∨ i = 2 ∨ i = 3 ∨ i = 4 := by omega
  rcases this with rfl | rfl | rfl | rfl | rfl <;> decide
theorem y_gv_ne (k0 : 0 < k) (hk : k ≤ 5) (hS : k ≤ S) (hT : ∀ c s, c < k → s < S → wi (T c s) 0 999) (n : Nat) : ∀ (i : Nat) (sum most least : Int32) (g : Nat → Int32) (p : yP), i + n = k → y_ok i sum most least → y_bo p → ¬ (y_gv law T S n i (y_mt i) sum most least g p).1 = -1 := by
  induction n with
  | zero =>
    intro i sum most least g p hi h1 h2
    by_cases z : ¬ p.1 = -1 ∧ p.1 ≤ y_va law sum most least
    · rw [show y_gv law T S 0 i (y_mt i) sum most least g p = p from if_pos z]
      exact z.1
    · rw [show y_gv law T S 0 i (y_mt i) sum most least g p = (y_va law sum most least, g) from if_neg z]
      intro q
      have q : y_va law sum most least = -1 := q
      have w3 := (y_va_w h1 (by omega) law).2 (by omega)
      rw [q, ti_n1] at w3
      omega
  | succ n ih =>
    intro i sum most least g p hi h1 h2
    rw [y_gv_s]
    refine y_fo_h (P := fun q : yP => ¬ q.1 = -1) (Q := y_bo) (i := i) h2 (fun q hq => ?_) S (by omega) (fun s q hs hq => ?_) (fun s q hs hq hp => ?_)
    · rw [y_gs_f (y_mt_b (by omega))]
      exact ih (i + 1) _ _ _ _ q (by omega) (y_ok_s h1 (by omega) (hT i i (by omega) (by omega))) hq
    · by_cases z : (y_mt i >>> (nI s &&& 31)) &&& 1 = 1
      · rw [y_gs_t z]; exact hq
      · rw [y_gs_f z]
        exact (y_gv_ok k0 hk hT n (i + 1) _ _ _ _ _ q (by omega) (y_ok_s h1 (by omega) (hT i s (by omega) hs)) hq).1
    · by_cases z : (y_mt i >>> (nI s &&& 31)) &&& 1 = 1
      · rw [y_gs_t z]; exact hp
      · rw [y_gs_f z]
        exact (y_gv_ok k0 hk hT n (i + 1) _ _ _ _ _ q (by omega) (y_ok_s h1 (by omega) (hT i s (by omega) hs)) hq).2 hp
end Q
end P98q
