/-! LAYER B: the class's times are tq -/
theorem scr_c {c : Nat} (h : c < 8) (j : Nat) : scr (5 + c) j = false ∧ scr (13 + c) j = false ∧ scr (76 + 2 * c) j = false := by
  have : c = 0 ∨ c = 1 ∨ c = 2 ∨ c = 3 ∨ c = 4 ∨ c = 5 ∨ c = 6 ∨ c = 7 := by omega
  rcases this with rfl | rfl | rfl | rfl | rfl | rfl | rfl | rfl <;> exact ⟨rfl, rfl, rfl⟩
theorem sc.e62 {I J J' : pI} (h : sc I J) (z : ∀ k, k ≠ 62 → k ≠ 63 → J' k = J k) : sc I J' := by
  intro k j hz
  have h2 : k ≠ 62 := fun q => by rw [q] at hz; cases hz
  have h3 : k ≠ 63 := fun q => by rw [q] at hz; cases hz
  rw [z k h2 h3]
  exact h k j hz
theorem sc.take {I J : pI} (h : sc I J) (c : Int32) : sc I (x_end (x_take J 62 1 c)) := h.e62 (fun _ a b => x_end_take J c a b)
theorem sc.ask {I J : pI} (h : sc I J) (c t : Int32) : sc I (x_end (x_as J c t)) := h.e62 (fun _ a b => x_end_as J c t a b)
theorem sc.inn {I J : pI} (h : sc I J) (c t : Int32) : sc I (x_end (x_inn J c t)) := h.e62 (fun _ a b => x_end_inn J c t a b)
theorem sc.rol {I J : pI} (h : sc I J) (c t : Int32) : sc I (x_end (x_rol J c t)) := h.e62 (fun _ a b => x_end_rol J c t a b)
theorem sc.two {I J : pI} (h : sc I J) (c e t : Int32) : sc I (x_end (x_two J c e t)) := h.e62 (fun _ a b => x_end_two J c e t a b)
section CTM
variable {I J : pI} {N S : Nat}
theorem bR.n (hb : bR I N S) : N ≤ 8 ∧ S ≤ 8 ∧ I 108 0 = nI N ∧ I 108 1 = nI S := ⟨hb.1.1, hb.1.2.1, hb.1.2.2.1, hb.1.2.2.2.1⟩
theorem bR.k (hb : bR I N S) {c : Nat} (h : c < 8) : wi (I 110 c) 0 6 ∧ wi (I 111 c) 0 9 ∧ wi (I 112 c) 0 9 ∧ (I 113 c = 0 ∨ (0 ≤ I 113 c ∧ I 113 c < nI S)) ∧ wi (I 114 c) 0 99 := hb.1.2.2.2.2.2.2.2.2.2.1 c h
theorem bR.rl (hb : bR I N S) : I 108 6 = 0 ∨ I 108 6 = 1 := hb.1.2.2.2.2.2.2.2.2.1
/-- the class's cells, read at a memory alike -/
theorem bR.c (hb : bR I N S) (hs : sc I J) {c : Nat} (h : c < 8) {j : Nat} (hj : j < 6) : J (5 + c) j = I (110 + j) c := by
  rw [hs _ _ (scr_c h j).1]
  exact hb.2.2.2.2.2.2.2.1 c h j hj
theorem bR.s (hb : bR I N S) (hs : sc I J) {k : Nat} (h : k < 8) {j : Nat} (hj : j < 2) : J (13 + k) j = I (116 + j) k := by
  rw [hs _ _ (scr_c h j).2.1]
  exact hb.2.2.2.2.2.2.2.2 k h j hj
theorem bR.w (hb : bR I N S) (hs : sc I J) {w : Nat} (h : w < 4) : J 4 w = I 108 (2 + w) := by
  rw [hs 4 w rfl]
  exact hb.2.2.2.2.2.2.1 w h
theorem bR.c11 (hb : bR I N S) (hs : sc I J) : J 1 1 = nI N := by rw [hs 1 1 rfl, hb.2.1, hb.n.2.2.1]
theorem bR.c13 (hb : bR I N S) (hs : sc I J) : J 1 3 = nI S := by rw [hs 1 3 rfl, hb.2.2.1, hb.n.2.2.2]
theorem bR.c15 (hb : bR I N S) (hs : sc I J) : J 1 5 = I 108 6 := by rw [hs 1 5 rfl, hb.2.2.2.1]
theorem bR.fOk (hb : bR I N S) (hs : sc I J) : fOk J N := by
  refine ⟨hb.n.1, hb.c11 hs, ?_, ?_, fun c hc => ?_⟩
  · rw [hb.c13 hs]; exact nI_le (b := 8) hb.n.2.1 (by omega)
  · rw [hb.c15 hs]; exact hb.rl
  · have hc8 : c < 8 := by have := hb.n.1; omega
    rw [hb.c hs hc8 (j := 0) (by omega)]
    exact isKd_wi (hb.k hc8).1
theorem bR.cl (hb : bR I N S) {c : Int32} (hc : 0 ≤ c ∧ c < nI N) : c.toNatClampNeg < N ∧ c.toNatClampNeg < 8 ∧ nI c.toNatClampNeg = c := by
  have h1 := cl_ti hc.1 hc.2 (by have := hb.n.1; omega)
  exact ⟨h1, by have := hb.n.1; omega, nI_cl hc.1⟩
theorem bR.nOk (hb : bR I N S) (hs : sc I J) {c : Int32} (hc : 0 ≤ c ∧ c < nI N) : nOk J c := (hb.fOk hs).nC (by rw [hb.c11 hs]; exact hc)
/-- the sack of a child is there, if any is -/
theorem bR.sk (hb : bR I N S) {c : Nat} (h : c < 8) : I 108 1 = 0 ∨ (0 ≤ I 113 c ∧ I 113 c < I 108 1) := by
  obtain ⟨-, hS, -, e⟩ := hb.n
  by_cases z : S = 0
  · exact Or.inl (by rw [e, z, nI_0])
  · refine Or.inr ?_
    rw [e]
    rcases (hb.k h).2.2.2.1 with q | q
    · rw [q]; exact ⟨by decide, nI_0 ▸ nI_lt (by omega) (by omega)⟩
    · exact q
theorem wi_min {x y : Int32} {a b : Int} (hx : wi x a b) (hy : wi y a b) : wi (i_min x y) a b := by
  unfold i_min
  split
  · exact hy
  · exact hx
/-- the general case: someone in the racer's cells, the field as it is -/
theorem tim_gen (hb : bR I N S) (hs : sc I J) {X : pI} (hX : ∀ k, k ≠ 62 → k ≠ 63 → X k = J k)
    (hk : wi (X 63 0) 0 6) (hl : wi (X 63 2) 0 9) (hw : I 108 1 = 0 ∨ (0 ≤ X 63 3 ∧ X 63 3 < I 108 1)) (hm : I 108 1 = 0 → X 62 1 = 0) (hr : X 62 2 = 0 ∨ X 62 2 = 1) :
    x_tim X = tq I (X 63 0) (X 63 1) (X 63 2) (X 63 3) (X 63 4) (X 62 2) (X 62 1) := by
  refine x_tim_q hb.1 (fun w hw => ?_) ?_ (fun k hk j hj => ?_) hk hl hw hm hr
  · rw [hX 4 (by decide) (by decide)]; exact hb.w hs hw
  · rw [hX 1 (by decide) (by decide), hb.c13 hs, hb.n.2.2.2]
  · rw [hX _ (by omega) (by omega)]; exact hb.s hs hk hj
theorem tk_c (hb : bR I N S) (hs : sc I J) {c : Int32} (hc : 0 ≤ c ∧ c < nI N) : (∀ j, j < 6 → x_take J 62 1 c 63 j = I (110 + j) c.toNatClampNeg) ∧ x_take J 62 1 c 62 1 = 0 ∧ x_take J 62 1 c 62 2 = I 108 6 := by
  have h8 := (hb.cl hc).2.1
  refine ⟨fun j hj => ?_, ?_, ?_⟩
  · rw [x_take_63, ← hb.c hs h8 hj]
    have : j = 0 ∨ j = 1 ∨ j = 2 ∨ j = 3 ∨ j = 4 ∨ j = 5 := by omega
    rcases this with rfl | rfl | rfl | rfl | rfl | rfl
    · exact c_become_0 _ _
    · exact c_become_1 _ _
    · exact c_become_2 _ _
    · exact c_become_3 _ _
    · exact c_become_4 _ _
    · exact c_become_5 _ _
  · rw [x_take_62, up_o _ _ (by decide), up_s]
  · rw [x_take_62, up_s, hb.c15 hs]
/-- the time of child c as he is -/
def tC (I : pI) (c : Nat) : Int32 := tq I (I 110 c) (I 111 c) (I 112 c) (I 113 c) (I 114 c) (I 108 6) 0
theorem tC_sc (h : sc I J) : tC J = tC I := by
  funext c
  unfold tC
  rw [tq_sc h, h 110 _ rfl, h 111 _ rfl, h 112 _ rfl, h 113 _ rfl, h 114 _ rfl, h 108 6 rfl]
theorem tim_of (hb : bR I N S) (hs : sc I J) {c : Int32} (hc : 0 ≤ c ∧ c < nI N) : x_tim (x_take J 62 1 c) = tC I c.toNatClampNeg := by
  obtain ⟨h1, h2, h3⟩ := tk_c hb hs hc
  have h8 := (hb.cl hc).2.1
  have hk := hb.k h8
  rw [tim_gen hb hs (fun k a b => x_take_o J c a b) (by rw [h1 0 (by omega)]; exact hk.1) (by rw [h1 2 (by omega)]; exact hk.2.2.1) (by rw [h1 3 (by omega)]; exact hb.sk h8) (fun _ => h2) (by rw [h3]; exact hb.rl)]
  rw [h1 0 (by omega), h1 1 (by omega), h1 2 (by omega), h1 3 (by omega), h1 4 (by omega), h2, h3]
  rfl
theorem tim_as (hb : bR I N S) (hs : sc I J) {c : Int32} (hc : 0 ≤ c ∧ c < nI N) {κ : Int32} (hκ : isKd κ) : x_tim (x_as J c κ) = tq I κ (I 111 c.toNatClampNeg) (I 112 c.toNatClampNeg) (I 113 c.toNatClampNeg) (I 114 c.toNatClampNeg) (I 108 6) 0 := by
  obtain ⟨h1, h2, h3⟩ := tk_c hb hs hc
  have h8 := (hb.cl hc).2.1
  have hk := hb.k h8
  have e0 : x_as J c κ 63 0 = κ := by simp [x_as, sr_same, up_s]
  have ej : ∀ j, j ≠ 0 → x_as J c κ 63 j = x_take J 62 1 c 63 j := fun j hj => by simp [x_as, sr_same, up_o _ _ hj]
  have e62 : x_as J c κ 62 = x_take J 62 1 c 62 := by rw [x_as, sr_other _ _ (by decide)]
  rw [tim_gen (X := x_as J c κ) hb hs (fun k a b => by rw [x_as, sr_other _ _ b, x_take_o J c a b]) (by rw [e0]; exact wi_isKd hκ) (by rw [ej 2 (by decide), h1 2 (by omega)]; exact hk.2.2.1) (by rw [ej 3 (by decide), h1 3 (by omega)]; exact hb.sk h8) (fun _ => by rw [e62]; exact h2) (by rw [e62, h3]; exact hb.rl)]
  rw [e0, e62, ej 1 (by decide), ej 2 (by decide), ej 3 (by decide), ej 4 (by decide), h1 1 (by omega), h1 2 (by omega), h1 3 (by omega), h1 4 (by omega), h2, h3]
theorem tim_in (hb : bR I N S) (hs : sc I J) {c : Int32} (hc : 0 ≤ c ∧ c < nI N) {s : Int32} (hq : 0 ≤ s ∧ s < nI S) : x_tim (x_inn J c s) = tq I (I 110 c.toNatClampNeg) (I 111 c.toNatClampNeg) (I 112 c.toNatClampNeg) s (I 114 c.toNatClampNeg) (I 108 6) 0 := by
  obtain ⟨h1, h2, h3⟩ := tk_c hb hs hc
  have h8 := (hb.cl hc).2.1
  have hk := hb.k h8
  have e0 : x_inn J c s 63 3 = s := by simp [x_inn, sr_same, up_s]
  have ej : ∀ j, j ≠ 3 → x_inn J c s 63 j = x_take J 62 1 c 63 j := fun j hj => by simp [x_inn, sr_same, up_o _ _ hj]
  have e62 : x_inn J c s 62 = x_take J 62 1 c 62 := by rw [x_inn, sr_other _ _ (by decide)]
  rw [tim_gen (X := x_inn J c s) hb hs (fun k a b => by rw [x_inn, sr_other _ _ b, x_take_o J c a b]) (by rw [ej 0 (by decide), h1 0 (by omega)]; exact hk.1) (by rw [ej 2 (by decide), h1 2 (by omega)]; exact hk.2.2.1) (by rw [e0, hb.n.2.2.2]; exact Or.inr hq) (fun _ => by rw [e62]; exact h2) (by rw [e62, h3]; exact hb.rl)]
  rw [e0, e62, ej 0 (by decide), ej 1 (by decide), ej 2 (by decide), ej 4 (by decide), h1 0 (by omega), h1 1 (by omega), h1 2 (by omega), h1 4 (by omega), h2, h3]
theorem tim_rol (hb : bR I N S) (hs : sc I J) {c : Int32} (hc : 0 ≤ c ∧ c < nI N) {b : Int32} (hq : b = 0 ∨ b = 1) : x_tim (x_rol J c b) = tq I (I 110 c.toNatClampNeg) (I 111 c.toNatClampNeg) (I 112 c.toNatClampNeg) (I 113 c.toNatClampNeg) (I 114 c.toNatClampNeg) b 0 := by
  obtain ⟨h1, h2, h3⟩ := tk_c hb hs hc
  have h8 := (hb.cl hc).2.1
  have hk := hb.k h8
  have e63 : x_rol J c b 63 = x_take J 62 1 c 63 := by rw [x_rol, sr_other _ _ (by decide)]
  have e1 : x_rol J c b 62 1 = 0 := by rw [← h2]; simp [x_rol, sr_same, upd]
  have e2 : x_rol J c b 62 2 = b := by simp [x_rol, sr_same, upd]
  rw [tim_gen (X := x_rol J c b) hb hs (fun k a d => by rw [x_rol, sr_other _ _ a, x_take_o J c a d]) (by rw [e63, h1 0 (by omega)]; exact hk.1) (by rw [e63, h1 2 (by omega)]; exact hk.2.2.1) (by rw [e63, h1 3 (by omega)]; exact hb.sk h8) (fun _ => e1) (by rw [e2]; exact hq)]
  rw [e63, e1, e2, h1 0 (by omega), h1 1 (by omega), h1 2 (by omega), h1 3 (by omega), h1 4 (by omega)]
theorem tim_two (hb : bR I N S) (hs : sc I J) {c e : Int32} (hc : 0 ≤ c ∧ c < nI N) (he : 0 ≤ e ∧ e < nI N) {s : Int32} (hq : 0 ≤ s ∧ s < nI S) :
    x_tim (x_two J c e s) = tq I (I 110 c.toNatClampNeg) (I 111 c.toNatClampNeg) (i_min (I 112 c.toNatClampNeg) (I 112 e.toNatClampNeg)) s (I 114 c.toNatClampNeg) (I 108 6) (i_ab (I 112 c.toNatClampNeg - I 112 e.toNatClampNeg)) := by
  obtain ⟨h1, h2, h3⟩ := tk_c hb hs hc
  have h8 := (hb.cl hc).2.1
  have e8 := (hb.cl he).2.1
  have hk := hb.k h8
  have hke := hb.k e8
  have ca := hb.c hs h8 (j := 2) (by omega)
  have cb := hb.c hs e8 (j := 2) (by omega)
  have e2 : x_two J c e s 63 2 = i_min (I 112 c.toNatClampNeg) (I 112 e.toNatClampNeg) := by
    rw [← ca, ← cb]
    simp only [x_two]
    rw [sr_other _ _ (by decide), sr_same, up_o _ _ (by decide), up_s]
  have e3 : x_two J c e s 63 3 = s := by
    simp only [x_two]
    rw [sr_other _ _ (by decide), sr_same, up_s]
  have ej : ∀ j, j ≠ 2 → j ≠ 3 → x_two J c e s 63 j = x_take J 62 1 c 63 j := fun j a b => by
    simp only [x_two]
    rw [sr_other _ _ (by decide), sr_same, up_o _ _ b, up_o _ _ a]
  have f1 : x_two J c e s 62 1 = i_ab (I 112 c.toNatClampNeg - I 112 e.toNatClampNeg) := by
    rw [← ca, ← cb, ← i_abs_ab]
    simp only [x_two]
    rw [sr_same, up_s]
  have f2 : x_two J c e s 62 2 = I 108 6 := by
    rw [← h3]
    simp only [x_two]
    rw [sr_same, up_o _ _ (by decide)]
  have hS0 : ¬ I 108 1 = 0 := by
    rw [hb.n.2.2.2]
    intro z
    rw [z] at hq
    obtain ⟨a, b⟩ := hq
    rw [ti_le, ti_0] at a
    rw [ti_lt, ti_0] at b
    omega
  rw [tim_gen (X := x_two J c e s) hb hs (fun k a d => by simp only [x_two]; rw [sr_other _ _ a, sr_other _ _ d, x_take_o J c a d]) (by rw [ej 0 (by decide) (by decide), h1 0 (by omega)]; exact hk.1) (by rw [e2]; exact wi_min hk.2.2.1 hke.2.2.1) (by rw [e3, hb.n.2.2.2]; exact Or.inr hq) (fun z => absurd z hS0) (by rw [f2]; exact hb.rl)]
  rw [e2, e3, f1, f2, ej 0 (by decide) (by decide), ej 1 (by decide) (by decide), ej 4 (by decide) (by decide), h1 0 (by omega), h1 1 (by omega), h1 4 (by omega)]
end CTM
