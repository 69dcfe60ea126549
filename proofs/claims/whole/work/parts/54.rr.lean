/-! LAYER B: the whole relation RR; what a call must do (eqc); refusals; the reference's memory (mR) -/
def wordsL : List Int32 := [99, 104, 105, 108, 100, 32, 0, 115, 97, 99, 107, 32, 0, 119, 101, 97, 114, 115, 32, 0, 97, 104, 101, 97, 100, 32, 0, 119, 97, 121, 32, 0, 117, 112, 32, 0, 114, 111, 112, 101, 32, 0, 119, 105, 110, 100, 32, 0]
def numsL : List Int32 := [3, 2, 2, 2, 1, 1, 1, 1]
def rSh (I : pI) (s : Nat) : Prop := (I 118 s = 0 ∧ I (76 + 2 * s) 0 = -1 ∧ I (76 + 2 * s) 1 = 0) ∨ (I 118 s = 1 ∧ wi (I 119 s) 0 3 ∧ I (76 + 2 * s) 0 = 100 + I 119 s ∧ I (76 + 2 * s) 1 = I 120 s ∧ wi (I 120 s) 0 160) ∨ (I 118 s = 2 ∧ I (76 + 2 * s) 0 = I 121 s ∧ I (76 + 2 * s) 1 = 0 ∧ 0 ≤ I 121 s ∧ I 121 s < I 108 0)
def rL (L : pL) : Prop := ∀ s, s < 8 → ∀ j, j < 160 → L (77 + 2 * s) j = L 122 (160 * s + j)
/-- the image as a field -/
def kI (I : pI) : pI := fun k j => if k = 108 then (if j = 0 then I 128 68 else if j = 1 then I 128 69 else if j < 6 then I 128 (62 + j) else if j = 6 then I 128 70 else if j = 7 then I 128 71 else I 128 72) else I 128 (8 * (k - 110) + j)
def rK (I : pI) : Prop := I 0 3 = I 108 58 ∧ (I 108 58 = 0 ∨ (I 108 58 = 1 ∧ rF 41 I (kI I) ∧ ∃ N S, vN (kI I) N S))
def rT (I : pI) : Prop := I 71 1 = I 108 57 ∧ ∀ i, i < 20 → I 72 i = I 137 i
def rW (I : pI) : Prop := (∀ j, j < 48 → I 124 j = wordsL.getD j 0) ∧ ∀ j, j < 8 → I 125 j = numsL.getD j 0
def rE (I : pI) : Prop := I 0 13 = I 108 9 ∧ ∀ n, n < 8 → I 75 n = I 109 n
def RR (I : pI) (L : pL) : Prop := ∃ N S, bR I N S ∧ (∀ s, s < 8 → rSh I s) ∧ rL L ∧ rK I ∧ rT I ∧ rW I ∧ rE I
/-- a part of what a field shows -/
def fK (k j : Nat) : Prop := (k = 108 ∧ j < 9) ∨ (110 ≤ k ∧ k ≤ 117)
theorem fK_scr {k j : Nat} (h : fK k j) : scr k j = false := by
  rcases h with ⟨rfl, h⟩ | ⟨h1, h2⟩
  · have : j = 0 ∨ j = 1 ∨ j = 2 ∨ j = 3 ∨ j = 4 ∨ j = 5 ∨ j = 6 ∨ j = 7 ∨ j = 8 := by omega
    rcases this with rfl | rfl | rfl | rfl | rfl | rfl | rfl | rfl | rfl <;> rfl
  · have : k = 110 ∨ k = 111 ∨ k = 112 ∨ k = 113 ∨ k = 114 ∨ k = 115 ∨ k = 116 ∨ k = 117 := by omega
    rcases this with rfl | rfl | rfl | rfl | rfl | rfl | rfl | rfl <;> rfl
theorem vN.cg {I J : pI} {N S : Nat} (h : vN I N S) (z : ∀ k j, fK k j → J k j = I k j) : vN J N S := by
  obtain ⟨a1, a2, a3, a4, a5, a6, a7, a8, a9, a10, a11⟩ := h
  unfold vN
  rw [z 108 0 (Or.inl ⟨rfl, by omega⟩), z 108 1 (Or.inl ⟨rfl, by omega⟩), z 108 2 (Or.inl ⟨rfl, by omega⟩), z 108 3 (Or.inl ⟨rfl, by omega⟩), z 108 4 (Or.inl ⟨rfl, by omega⟩), z 108 5 (Or.inl ⟨rfl, by omega⟩), z 108 6 (Or.inl ⟨rfl, by omega⟩)]
  refine ⟨a1, a2, a3, a4, a5, a6, a7, a8, a9, fun c hc => ?_, fun k hk => ?_⟩
  · rw [z 110 c (Or.inr ⟨by omega, by omega⟩), z 111 c (Or.inr ⟨by omega, by omega⟩), z 112 c (Or.inr ⟨by omega, by omega⟩), z 113 c (Or.inr ⟨by omega, by omega⟩), z 114 c (Or.inr ⟨by omega, by omega⟩)]
    exact a10 c hc
  · rw [z 116 k (Or.inr ⟨by omega, by omega⟩), z 117 k (Or.inr ⟨by omega, by omega⟩)]
    exact a11 k hk
theorem rF.cg {f : Nat} {I J V U : pI} (h : rF f I V) (zI : ∀ k, f ≤ k → k < f + 20 → ∀ j, J k j = I k j) (z : ∀ k j, fK k j → U k j = V k j) : rF f J U := by
  obtain ⟨a1, a2, a3, a4, a5, a6, a7, a8⟩ := h
  unfold rF
  rw [zI f (by omega) (by omega), zI f (by omega) (by omega), zI f (by omega) (by omega), zI f (by omega) (by omega), zI f (by omega) (by omega), z 108 0 (Or.inl ⟨rfl, by omega⟩), z 108 1 (Or.inl ⟨rfl, by omega⟩), z 108 6 (Or.inl ⟨rfl, by omega⟩), z 108 7 (Or.inl ⟨rfl, by omega⟩), z 108 8 (Or.inl ⟨rfl, by omega⟩)]
  refine ⟨a1, a2, a3, a4, a5, fun w hw => ?_, fun c hc j hj => ?_, fun k hk j hj => ?_⟩
  · rw [zI _ (by omega) (by omega), z 108 _ (Or.inl ⟨rfl, by omega⟩)]; exact a6 w hw
  · rw [zI _ (by omega) (by omega), z (110 + j) _ (Or.inr ⟨by omega, by omega⟩)]; exact a7 c hc j hj
  · rw [zI _ (by omega) (by omega), z (116 + j) _ (Or.inr ⟨by omega, by omega⟩)]; exact a8 k hk j hj
theorem kI.cg {I J : pI} (z : ∀ j, J 128 j = I 128 j) : kI J = kI I := by
  funext k j
  unfold kI
  simp only [z]
theorem rSh.cg {I J : pI} {s : Nat} (h : rSh I s) (z0 : ∀ j, J (76 + 2 * s) j = I (76 + 2 * s) j) (z1 : J 118 s = I 118 s) (z2 : J 119 s = I 119 s) (z3 : J 120 s = I 120 s) (z4 : J 121 s = I 121 s) (z5 : J 108 0 = I 108 0) : rSh J s := by
  unfold rSh
  rw [z0, z0, z1, z2, z3, z4, z5]
  exact h
theorem rK.cg {I J : pI} (h : rK I) (z0 : J 0 3 = I 0 3) (z1 : J 108 58 = I 108 58) (z2 : ∀ k, 41 ≤ k → k < 61 → ∀ j, J k j = I k j) (z3 : ∀ j, J 128 j = I 128 j) : rK J := by
  unfold rK
  rw [z0, z1, kI.cg z3]
  refine ⟨h.1, ?_⟩
  rcases h.2 with h | ⟨h1, h2, h3⟩
  · exact Or.inl h
  · exact Or.inr ⟨h1, h2.cg (fun k a b => z2 k a (by omega)) (fun _ _ _ => rfl), h3⟩
theorem rT.cg {I J : pI} (h : rT I) (z0 : J 71 1 = I 71 1) (z1 : J 108 57 = I 108 57) (z2 : ∀ j, J 72 j = I 72 j) (z3 : ∀ j, J 137 j = I 137 j) : rT J := by
  unfold rT
  rw [z0, z1]
  exact ⟨h.1, fun i hi => by rw [z2, z3]; exact h.2 i hi⟩
theorem rW.cg {I J : pI} (h : rW I) (z0 : ∀ j, J 124 j = I 124 j) (z1 : ∀ j, J 125 j = I 125 j) : rW J := ⟨fun j hj => by rw [z0]; exact h.1 j hj, fun j hj => by rw [z1]; exact h.2 j hj⟩
theorem rE.cg {I J : pI} (h : rE I) (z0 : J 0 13 = I 0 13) (z1 : J 108 9 = I 108 9) (z2 : ∀ j, J 75 j = I 75 j) (z3 : ∀ j, J 109 j = I 109 j) : rE J := ⟨by rw [z0, z1]; exact h.1, fun n hn => by rw [z2, z3]; exact h.2 n hn⟩
theorem scr_f {k : Nat} (h : k < 21 ∨ (41 ≤ k ∧ k < 61)) (j : Nat) : scr k j = false := by
  have nb : ∀ a b : Nat, ¬ a ≤ b → Nat.ble a b = false := fun a b hm => by
    cases q : Nat.ble a b with
    | false => rfl
    | true => exact absurd (Nat.le_of_ble_eq_true q) hm
  have e1 : (Nat.ble 21 k && Nat.ble k 40) = false := by
    rw [Bool.and_eq_false_iff]
    rcases h with h | h
    · left; exact nb _ _ (by omega)
    · right; exact nb _ _ (by omega)
  have ne : ∀ m, 61 ≤ m → Nat.beq k m = false := fun m hm => by
    cases q : Nat.beq k m with
    | false => rfl
    | true => have := Nat.eq_of_beq_eq_true q; omega
  have bl : ∀ m, 61 ≤ m → Nat.ble m k = false := fun m hm => nb _ _ (by omega)
  unfold scr
  rw [e1, ne 62 (by omega), ne 63 (by omega), bl 65 (by omega), ne 71 (by omega), ne 73 (by omega), ne 74 (by omega), bl 92 (by omega), ne 108 (by omega), ne 126 (by omega), ne 127 (by omega), bl 129 (by omega)]
  rfl
theorem RR.sc {I J : pI} {L : pL} (h : RR I L) (s : sc I J) : RR J L := by
  obtain ⟨N, S, hb, hS, hL, hK, hT, hW, hE⟩ := h
  refine ⟨N, S, ⟨hb.1.cg (fun k j z => s k j (fK_scr z)), hb.2.cg (fun k a b j => s k j (scr_f (Or.inl (by omega)) j)) (fun k j z => s k j (fK_scr z))⟩, fun q hq => (hS q hq).cg (fun j => s _ _ (scr_c hq j).2.2) (s _ _ rfl) (s _ _ rfl) (s _ _ rfl) (s _ _ rfl) (s _ _ rfl), hL, hK.cg (s _ _ rfl) (s _ _ rfl) (fun k a b j => s k j (scr_f (Or.inr ⟨a, b⟩) j)) (fun j => s _ _ rfl), hT.cg (s _ _ rfl) (s _ _ rfl) (fun j => s _ _ rfl) (fun j => s _ _ rfl), hW.cg (fun j => s _ _ rfl) (fun j => s _ _ rfl), hE.cg (s _ _ rfl) (s _ _ rfl) (fun j => s _ _ rfl) (fun j => s _ _ rfl)⟩
/-- the reference's memory is I's but for scratch, the class's is C's -/
def mR (I C J : pI) : Prop := (∀ k j, (Nat.ble 108 k && !(scr k j)) = true → J k j = I k j) ∧ ∀ k, k < 108 → J k = C k
def mg (C I : pI) : pI := fun k => if k < 108 then C k else I k
theorem mR.sc {I C C1 J : pI} (h : mR I C J) (hc : sc C1 C) : sc (mg C1 I) J := by
  intro k j z
  unfold mg
  split
  · rename_i hk
    rw [h.2 k hk]
    exact hc k j z
  · rename_i hk
    exact h.1 k j (by rw [z, Nat.ble_eq_true_of_le (by omega : 108 ≤ k)]; rfl)
theorem mR.of_sc {I J : pI} (h : ∀ k j, 108 ≤ k → scr k j = false → J k j = I k j) : mR I J J := by
  refine ⟨fun k j z => ?_, fun _ _ => rfl⟩
  rw [Bool.and_eq_true] at z
  refine h k j (Nat.le_of_ble_eq_true z.1) ?_
  have z2 := z.2
  cases q : scr k j with
  | false => rfl
  | true => rw [q] at z2; cases z2
theorem mR.u {I C J : pI} (h : mR I C J) {k j : Nat} {v : Int32} (hk : 108 ≤ k) (z : scr k j = true) : mR I C (mm_u J k j v) := by
  refine ⟨fun a b hz => ?_, fun a ha => ?_⟩
  · unfold mm_u
    split
    · rename_i h1
      split
      · rename_i h2
        rw [h1, h2, z] at hz
        simp at hz
      · exact h.1 a b hz
    · exact h.1 a b hz
  · rw [← h.2 a ha]
    funext b
    unfold mm_u
    rw [if_neg (by omega)]
/-- the same write on both -/
theorem mR.uu {I C J : pI} (h : mR I C J) {k j : Nat} {v : Int32} (hk : 108 ≤ k) : mR (mm_u I k j v) C (mm_u J k j v) := by
  refine ⟨fun a b hz => ?_, fun a ha => ?_⟩
  · unfold mm_u
    split
    · split
      · rfl
      · exact h.1 a b hz
    · exact h.1 a b hz
  · rw [← h.2 a ha]
    funext b
    unfold mm_u
    rw [if_neg (by omega)]
theorem mR.ro {I C J : pI} (h : mR I C J) {k : Nat} {ρ : Nat → Int32} (hk : 108 ≤ k) (z : ∀ j, scr k j = false → ρ j = J k j) : mR I C (sr J k ρ) := by
  refine ⟨fun a b hz => ?_, fun a ha => ?_⟩
  · unfold sr
    split
    · rename_i h1
      rw [h1] at hz ⊢
      rw [Bool.and_eq_true] at hz
      rw [z b (by have := hz.2; cases q : scr k b with | false => rfl | true => rw [q] at this; cases this)]
      exact h.1 k b (by rw [Bool.and_eq_true]; exact hz)
    · exact h.1 a b hz
  · rw [← h.2 a ha]
    unfold sr
    rw [if_neg (by omega)]
/-- refusals: w is 0 or the refusal -/
def rI (I : pI) (w : Int32) : pI := if w = 0 then I else mm_u I 75 (-w).toNatClampNeg (I 75 (-w).toNatClampNeg + 1)
def rM (I : pI) (w : Int32) : pI := if w = 0 then I else mm_u I 109 (-w).toNatClampNeg (I 109 (-w).toNatClampNeg + 1)
def vq (w q : Int32) : Int32 := if w = 0 then q else w
def vt (w q : Int32) : Int32 := if w = 0 then q else w - 10
def isW (w : Int32) : Prop := w = -1 ∨ w = -2 ∨ w = -3 ∨ w = -4 ∨ w = -5 ∨ w = -6 ∨ w = -7
theorem x_ref_w (I : pI) {w : Int32} (h : isW w) : x_ref I w = rI I w := by
  rcases h with rfl | rfl | rfl | rfl | rfl | rfl | rfl <;>
  · unfold x_ref rI x_inc
    rw [if_pos (by decide), if_neg (by decide), mm_u_sr]
    rfl
theorem x_ref_t (I : pI) {w : Int32} (h : isW w) : x_ref I (w - 10) = rI I w := by
  rcases h with rfl | rfl | rfl | rfl | rfl | rfl | rfl <;>
  · unfold x_ref rI x_inc
    rw [if_pos (by decide), if_neg (by decide), mm_u_sr]
    rfl
theorem isW.ne {w : Int32} (h : isW w) : ¬ w = 0 := by rcases h with rfl | rfl | rfl | rfl | rfl | rfl | rfl <;> decide
theorem isW.inn {w : Int32} (h : isW w) : mm_in (-w) 8 = true := by rcases h with rfl | rfl | rfl | rfl | rfl | rfl | rfl <;> decide
theorem isW.cl {w : Int32} (h : isW w) : (-w).toNatClampNeg < 8 := mm_in_lt h.inn
theorem mR.no {I C J : pI} {w : Int32} (h : mR I C J) (hw : isW w) : mR (rM I w) C (x_inc J 109 (-w)) := by
  unfold rM x_inc
  rw [if_neg hw.ne, ← mm_u_sr, h.1 109 _ rfl]
  exact h.uu (by omega)
/-- class, refused -/
theorem cNo {I : pI} {L : pL} {w q n : Int32} (hw : w = n) (h : isW n) : pX (some (.int (vq w q))) L (sc (rI I w)) (some (.int n)) (mm_sh, mm_R, x_ref I n, L) := by
  subst hw
  refine pX.mk ?_ ?_
  · rw [vq, if_neg h.ne]
  · rw [x_ref_w I h]; exact sc.rf _
theorem cNt {I : pI} {L : pL} {w q n m : Int32} (hw : w = n) (h : isW n) (hm : m = n - 10) : pX (some (.int (vt w q))) L (sc (rI I w)) (some (.int m)) (mm_sh, mm_R, x_ref I m, L) := by
  subst hw
  subst hm
  refine pX.mk ?_ ?_
  · rw [vt, if_neg h.ne]
  · rw [x_ref_t I h]; exact sc.rf _
theorem cOk {I J : pI} {L : pL} {w q n : Int32} (hw : w = 0) (hq : q = n) (h : sc I J) : pX (some (.int (vq w q))) L (sc (rI I w)) (some (.int n)) (mm_sh, mm_R, J, L) := by
  subst hw
  subst hq
  exact pX.mk rfl h
theorem cOt {I J : pI} {L : pL} {w q n : Int32} (hw : w = 0) (hq : q = n) (h : sc I J) : pX (some (.int (vt w q))) L (sc (rI I w)) (some (.int n)) (mm_sh, mm_R, J, L) := by
  subst hw
  subst hq
  exact pX.mk rfl h
/-- reference, refused -/
theorem mNo {I C J : pI} {L : pL} {w q n : Int32} (hw : w = n) (h : isW n) (hs : mR I C J) : pX (some (.int (vq w q))) L (mR (rM I w) C) (some (.int n)) (mm_sh, mm_R, x_inc J 109 (-n), L) := by
  subst hw
  refine pX.mk ?_ (hs.no h)
  rw [vq, if_neg h.ne]
theorem mNt {I C J : pI} {L : pL} {w q n : Int32} (hw : w = n) (h : isW n) (hs : mR I C J) : pX (some (.int (vt w q))) L (mR (rM I w) C) (some (.int (n - 10))) (mm_sh, mm_R, x_inc J 109 (-n), L) := by
  subst hw
  refine pX.mk ?_ (hs.no h)
  rw [vt, if_neg h.ne]
theorem mOk {I C J : pI} {L : pL} {w q n : Int32} (hw : w = 0) (hq : q = n) (hs : mR I C J) : pX (some (.int (vq w q))) L (mR (rM I w) C) (some (.int n)) (mm_sh, mm_R, J, L) := by
  subst hw
  subst hq
  exact pX.mk rfl hs
theorem mOt {I C J : pI} {L : pL} {w q n : Int32} (hw : w = 0) (hq : q = n) (hs : mR I C J) : pX (some (.int (vt w q))) L (mR (rM I w) C) (some (.int n)) (mm_sh, mm_R, J, L) := by
  subst hw
  subst hq
  exact pX.mk rfl hs
/-- what is owed of a pair of methods -/
def eqc (mi mi' : Nat) (as : List Value) : Prop := ∀ I L, RR I L → ∃ v J L1 J2 L2, mm_Call 40 mi (.ref 0 :: as) (mm_sh, mm_R, I, L) (some v) (mm_sh, mm_R, J, L1) ∧ mm_Call 40 mi' (.ref 108 :: as) (mm_sh, mm_R, J, L1) (some v) (mm_sh, mm_R, J2, L2) ∧ RR J2 L2
theorem eqc_of {mi mi' : Nat} {as : List Value} (h : ∀ I L, RR I L → ∃ v L1 I1 I2 L2, cP 40 mi (.ref 0 :: as) (mm_sh, mm_R, I, L) (pX (some v) L1 (sc I1)) ∧ (∀ k, 108 ≤ k → I1 k = I k) ∧ (∀ C J, mR I C J → cP 40 mi' (.ref 108 :: as) (mm_sh, mm_R, J, L1) (pX (some v) L2 (mR I2 C))) ∧ RR (mg I1 I2) L2) : eqc mi mi' as := by
  intro I L hR
  obtain ⟨v, L1, I1, I2, L2, ⟨r, M1, hc, rfl, J, rfl, hs⟩, h1, h2, h3⟩ := h I L hR
  obtain ⟨r2, M2, hc2, rfl, J2, rfl, hs2⟩ := h2 J J (mR.of_sc (fun k j hk z => by rw [hs k j z, h1 k hk]))
  exact ⟨v, J, L1, J2, L2, hc, hc2, h3.sc (hs2.sc hs)⟩
theorem mg_c (C I : pI) {k : Nat} (h : k < 108) : mg C I k = C k := if_pos h
theorem mg_r (C I : pI) {k : Nat} (h : 108 ≤ k) : mg C I k = I k := if_neg (by omega)
theorem mm_u_o (I : pI) {k a : Nat} (j b : Nat) (v : Int32) (h : a ≠ k) : mm_u I k j v a b = I a b := if_neg h
theorem mm_u_k (I : pI) {k a : Nat} (j : Nat) (v : Int32) (h : a ≠ k) : mm_u I k j v a = I a := by funext b; exact if_neg h
theorem rI_o (I : pI) (w : Int32) {k : Nat} (h : k ≠ 75) : rI I w k = I k := by
  unfold rI
  split
  · rfl
  · exact mm_u_k _ _ _ h
theorem rM_o (I : pI) (w : Int32) {k : Nat} (h : k ≠ 109) : rM I w k = I k := by
  unfold rM
  split
  · rfl
  · exact mm_u_k _ _ _ h
theorem RR.no {I : pI} {L : pL} (h : RR I L) (w : Int32) (hw : w = 0 ∨ isW w) : RR (mg (rI I w) (rM I w)) L := by
  have e : ∀ k, k ≠ 75 → k ≠ 109 → mg (rI I w) (rM I w) k = I k := fun k a b => by
    unfold mg
    split
    · exact rI_o I w a
    · exact rM_o I w b
  have e' : ∀ k, k ≠ 75 → k ≠ 109 → ∀ j, mg (rI I w) (rM I w) k j = I k j := fun k a b j => by rw [e k a b]
  obtain ⟨N, S, hb, hS, hL, hK, hT, hW, hE⟩ := h
  refine ⟨N, S, ⟨hb.1.cg (fun k j z => e' k (by rcases z with z | z <;> omega) (by rcases z with z | z <;> omega) j), hb.2.cg (fun k a b j => e' k (by omega) (by omega) j) (fun k j z => e' k (by rcases z with z | z <;> omega) (by rcases z with z | z <;> omega) j)⟩, fun q hq => (hS q hq).cg (fun j => e' _ (by omega) (by omega) j) (e' _ (by decide) (by decide) _) (e' _ (by decide) (by decide) _) (e' _ (by decide) (by decide) _) (e' _ (by decide) (by decide) _) (e' _ (by decide) (by decide) _), hL, hK.cg (e' _ (by decide) (by decide) _) (e' _ (by decide) (by decide) _) (fun k a b j => e' k (by omega) (by omega) j) (fun j => e' _ (by decide) (by decide) j), hT.cg (e' _ (by decide) (by decide) _) (e' _ (by decide) (by decide) _) (fun j => e' _ (by decide) (by decide) j) (fun j => e' _ (by decide) (by decide) j), hW.cg (fun j => e' _ (by decide) (by decide) j) (fun j => e' _ (by decide) (by decide) j), ?_⟩
  refine ⟨?_, fun n hn => ?_⟩
  · rw [e' 0 (by decide) (by decide), e' 108 (by decide) (by decide)]; exact hE.1
  · rw [mg_c _ _ (by omega : 75 < 108), mg_r _ _ (by omega : 108 ≤ 109)]
    rcases hw with hw | hw
    · rw [rI, if_pos hw, rM, if_pos hw]; exact hE.2 n hn
    · rw [rI, if_neg hw.ne, rM, if_neg hw.ne]
      unfold mm_u
      rw [if_pos rfl, if_pos rfl, hE.2 _ hw.cl, hE.2 n hn]
/-- a question: nothing changes but refusals -/
theorem eqc_q {mi mi' : Nat} {as : List Value} (h : ∀ I L, RR I L → ∃ v w, (w = 0 ∨ isW w) ∧ cP 40 mi (.ref 0 :: as) (mm_sh, mm_R, I, L) (pX (some v) L (sc (rI I w))) ∧ (∀ C J, mR I C J → cP 40 mi' (.ref 108 :: as) (mm_sh, mm_R, J, L) (pX (some v) L (mR (rM I w) C)))) : eqc mi mi' as := by
  refine eqc_of fun I L hR => ?_
  obtain ⟨v, w, hw, h1, h2⟩ := h I L hR
  exact ⟨v, L, rI I w, rM I w, L, h1, fun k hk => rI_o I w (by omega), h2, hR.no w hw⟩
