/-! FIELDS: one becomes another, described; the reference carries all to an array and back -/
section P85
variable {I C J : pI} {L : pL} {N S : Nat}

def fK8 (k j : Nat) : Prop := (k = 108 ∧ j < 9) ∨ (110 ≤ k ∧ k ≤ 117 ∧ j < 8)
theorem vN.cg8 {I J : pI} {N S : Nat} (h : vN I N S) (z : ∀ k j, fK8 k j → J k j = I k j) : vN J N S := by
  obtain ⟨a1, a2, a3, a4, a5, a6, a7, a8, a9, a10, a11⟩ := h
  unfold vN
  rw [z 108 0 (Or.inl ⟨rfl, by omega⟩), z 108 1 (Or.inl ⟨rfl, by omega⟩), z 108 2 (Or.inl ⟨rfl, by omega⟩), z 108 3 (Or.inl ⟨rfl, by omega⟩), z 108 4 (Or.inl ⟨rfl, by omega⟩), z 108 5 (Or.inl ⟨rfl, by omega⟩), z 108 6 (Or.inl ⟨rfl, by omega⟩)]
  refine ⟨a1, a2, a3, a4, a5, a6, a7, a8, a9, fun c hc => ?_, fun k hk => ?_⟩
  · rw [z 110 c (Or.inr ⟨by omega, by omega, hc⟩), z 111 c (Or.inr ⟨by omega, by omega, hc⟩), z 112 c (Or.inr ⟨by omega, by omega, hc⟩), z 113 c (Or.inr ⟨by omega, by omega, hc⟩), z 114 c (Or.inr ⟨by omega, by omega, hc⟩)]
    exact a10 c hc
  · rw [z 116 k (Or.inr ⟨by omega, by omega, hk⟩), z 117 k (Or.inr ⟨by omega, by omega, hk⟩)]
    exact a11 k hk
/-- what the class's become writes -/
def bcI (I : pI) (f g : Nat) : pI := fun a b =>
  if a = f ∧ (b = 1 ∨ b = 3 ∨ b = 5 ∨ b = 6 ∨ b = 7) then I g b else if a = f + 3 ∧ b < 4 then I (g + 3) b else
  if f + 4 ≤ a ∧ a < f + 12 ∧ b < 6 then I (g + (a - f)) b else if f + 12 ≤ a ∧ a < f + 20 ∧ b < 2 then I (g + (a - f)) b else I a b
theorem bcI_i (I : pI) (f g a b : Nat) : bcI I f g a b = if a = f ∧ (b = 1 ∨ b = 3 ∨ b = 5 ∨ b = 6 ∨ b = 7) then I g b else if a = f + 3 ∧ b < 4 then I (g + 3) b else if f + 4 ≤ a ∧ a < f + 12 ∧ b < 6 then I (g + (a - f)) b else if f + 12 ≤ a ∧ a < f + 20 ∧ b < 2 then I (g + (a - f)) b else I a b := rfl
theorem sr_i (I : pI) (k : Nat) (ρ : Nat → Int32) (a b : Nat) : sr I k ρ a b = if a = k then ρ b else I a b := by
  unfold sr
  split <;> rfl
theorem c_become_i (κ σ : mRow) (b : Nat) : c_become κ σ b = if b < 6 then σ b else κ b := by
  by_cases h : b < 6
  · rw [if_pos h]
    have : b = 0 ∨ b = 1 ∨ b = 2 ∨ b = 3 ∨ b = 4 ∨ b = 5 := by omega
    rcases this with rfl | rfl | rfl | rfl | rfl | rfl
    · exact c_become_0 _ _
    · exact c_become_1 _ _
    · exact c_become_2 _ _
    · exact c_become_3 _ _
    · exact c_become_4 _ _
    · exact c_become_5 _ _
  · rw [if_neg h]
    unfold c_become
    rw [up_o _ _ (by omega), up_o _ _ (by omega), up_o _ _ (by omega), up_o _ _ (by omega), up_o _ _ (by omega), up_o _ _ (by omega)]
theorem x_bcC_i {f g : Nat} (hfg : g + 20 ≤ f ∨ f + 20 ≤ g) (n : Nat) (hn : n ≤ 8) : ∀ a b, x_bcC f g n I a b = if f + 4 ≤ a ∧ a < f + 4 + n ∧ b < 6 then I (g + (a - f)) b else I a b := by
  induction n with
  | zero => intro a b; rw [if_neg (by omega)]; rfl
  | succ n ih =>
    intro a b
    unfold x_bcC
    rw [nI_clamp (by omega), sr_i]
    by_cases h : a = f + 4 + n
    · rw [if_pos h, c_become_i]
      by_cases h2 : b < 6
      · rw [if_pos h2, if_pos (by omega), ih (by omega), if_neg (by omega), h, show g + (f + 4 + n - f) = g + 4 + n by omega]
      · rw [if_neg h2, if_neg (by omega), ih (by omega), if_neg (by omega), h]
    · rw [if_neg h, ih (by omega)]
      by_cases h3 : f + 4 ≤ a ∧ a < f + 4 + n ∧ b < 6
      · rw [if_pos h3, if_pos (by omega)]
      · rw [if_neg h3, if_neg (by omega)]
theorem x_bcS_i {f g : Nat} (hfg : g + 20 ≤ f ∨ f + 20 ≤ g) (n : Nat) (hn : n ≤ 8) : ∀ a b, x_bcS f g n I a b = if f + 12 ≤ a ∧ a < f + 12 + n ∧ b < 2 then I (g + (a - f)) b else I a b := by
  induction n with
  | zero => intro a b; rw [if_neg (by omega)]; rfl
  | succ n ih =>
    intro a b
    unfold x_bcS x_bcS1
    rw [nI_clamp (by omega)]
    simp only [mm_u_i]
    by_cases h : a = f + 12 + n
    · by_cases h1 : b = 1
      · rw [if_pos ⟨h, h1⟩, if_neg (by omega), if_pos (by omega), ih (by omega), if_neg (by omega), h, h1, show g + (f + 12 + n - f) = g + 12 + n by omega]
      · rw [if_neg (fun z => h1 z.2)]
        by_cases h0 : b = 0
        · rw [if_pos ⟨h, h0⟩, if_pos (by omega), ih (by omega), if_neg (by omega), h, h0, show g + (f + 12 + n - f) = g + 12 + n by omega]
        · rw [if_neg (fun z => h0 z.2), ih (by omega), if_neg (by omega), if_neg (by omega)]
    · rw [if_neg (fun z => h z.1), if_neg (fun z => h z.1), ih (by omega)]
      by_cases h3 : f + 12 ≤ a ∧ a < f + 12 + n ∧ b < 2
      · rw [if_pos h3, if_pos (by omega)]
      · rw [if_neg h3, if_neg (by omega)]
theorem mm_cy_i {α : Type} (F : Nat → Nat → α) (p q sp dp n a b : Nat) : mm_cy F p q sp dp n a b = if a = q ∧ dp ≤ b ∧ b < dp + n then F p (sp + (b - dp)) else F a b := by
  unfold mm_cy va_cpy
  by_cases h : a = q
  · by_cases h2 : dp ≤ b ∧ b < dp + n
    · rw [if_pos h, if_pos h2, if_pos ⟨h, h2⟩]
    · rw [if_pos h, if_neg h2, if_neg (fun z => h2 z.2), h]
  · rw [if_neg h, if_neg (fun z => h z.1)]
theorem x_bc_i {f g : Nat} (hfg : g + 20 ≤ f ∨ f + 20 ≤ g) : x_bc I f g = bcI I f g ∧ x_bc3 I f g g 5 = I g 5 := by
  have e1 : ∀ a b, x_bc1 I f g a b = if f + 4 ≤ a ∧ a < f + 12 ∧ b < 6 then I (g + (a - f)) b else if a = f ∧ b = 1 then I g 1 else I a b := by
    intro a b
    unfold x_bc1
    rw [x_bcC_i hfg 8 (by omega)]
    simp only [mm_u_i]
    (repeat' split) <;> first | rfl | (exfalso; omega)
  have e2 : ∀ a b, x_bc2 I f g a b = if f + 12 ≤ a ∧ a < f + 20 ∧ b < 2 then I (g + (a - f)) b else if a = f ∧ b = 3 then I g 3 else x_bc1 I f g a b := by
    intro a b
    unfold x_bc2
    rw [x_bcS_i hfg 8 (by omega)]
    simp only [mm_u_i, e1]
    (repeat' split) <;> first | rfl | (exfalso; omega)
  have e2g : ∀ a b, g ≤ a → a < g + 20 → x_bc2 I f g a b = I a b := by
    intro a b h1 h2
    rw [e2, if_neg (by omega), if_neg (by omega), e1, if_neg (by omega), if_neg (by omega)]
  have e3 : ∀ a b, x_bc3 I f g a b = if a = f + 3 ∧ b < 4 then I (g + 3) b else x_bc2 I f g a b := by
    intro a b
    unfold x_bc3
    rw [mm_cy_i]
    by_cases h : a = f + 3 ∧ b < 4
    · rw [if_pos (by omega), if_pos h, e2g _ _ (by omega) (by omega), show 0 + (b - 0) = b by omega]
    · rw [if_neg (by omega), if_neg h]
  have e3g : ∀ b, x_bc3 I f g g b = I g b := fun b => by rw [e3, if_neg (by omega), e2g _ _ (by omega) (by omega)]
  refine ⟨?_, e3g 5⟩
  funext a b
  unfold x_bc x_bc5 x_bc4
  have q5 : ∀ v w b, mm_u (mm_u (x_bc3 I f g) f 5 v) f 6 w g b = I g b := fun v w b => by rw [mm_u_o _ _ _ _ (by omega), mm_u_o _ _ _ _ (by omega), e3g]
  have q4 : ∀ v b, mm_u (x_bc3 I f g) f 5 v g b = I g b := fun v b => by rw [mm_u_o _ _ _ _ (by omega), e3g]
  rw [q5, q4, e3g, mm_u_i, mm_u_i, mm_u_i]
  unfold bcI
  by_cases h : a = f
  · subst h
    by_cases h7 : b = 7
    · rw [if_pos ⟨rfl, h7⟩, if_pos ⟨rfl, by omega⟩, h7]
    · by_cases h6 : b = 6
      · rw [if_neg (fun z => h7 z.2), if_pos ⟨rfl, h6⟩, if_pos ⟨rfl, by omega⟩, h6]
      · by_cases h5 : b = 5
        · rw [if_neg (fun z => h7 z.2), if_neg (fun z => h6 z.2), if_pos ⟨rfl, h5⟩, if_pos ⟨rfl, by omega⟩, h5]
        · rw [if_neg (fun z => h7 z.2), if_neg (fun z => h6 z.2), if_neg (fun z => h5 z.2), e3, if_neg (by omega), e2, if_neg (by omega)]
          by_cases h3 : b = 3
          · rw [if_pos ⟨rfl, h3⟩, if_pos ⟨rfl, by omega⟩, h3]
          · rw [if_neg (fun z => h3 z.2), e1, if_neg (by omega)]
            by_cases h1 : b = 1
            · rw [if_pos ⟨rfl, h1⟩, if_pos ⟨rfl, by omega⟩, h1]
            · rw [if_neg (fun z => h1 z.2), if_neg (by omega), if_neg (by omega), if_neg (by omega), if_neg (by omega)]
  · rw [if_neg (fun z => h z.1), if_neg (fun z => h z.1), if_neg (fun z => h z.1), if_neg (fun z => h z.1), e3]
    by_cases h4 : a = f + 3 ∧ b < 4
    · rw [if_pos h4, if_pos h4]
    · rw [if_neg h4, if_neg h4, e2, e1]
      by_cases h5 : f + 12 ≤ a ∧ a < f + 20 ∧ b < 2
      · rw [if_pos h5, if_neg (by omega), if_pos h5]
      · rw [if_neg h5, if_neg (fun z => h z.1)]
        by_cases h6 : f + 4 ≤ a ∧ a < f + 12 ∧ b < 6
        · rw [if_pos h6, if_pos h6]
        · rw [if_neg h6, if_neg (fun z => h z.1), if_neg h6, if_neg h5]
theorem ct_become (d : Nat) {f g : Nat} (hF : isF f) (hG : isF g) (hfg : g + 20 ≤ f ∨ f + 20 ≤ g) (h5 : I g 5 = 0 ∨ I g 5 = 1) : cP (d + 2) 9 [.ref f, .ref g] (mm_sh, mm_R, I, L) (pX none L (fun K => K = bcI I f g)) := by
  obtain ⟨e1, e2⟩ := x_bc_i (I := I) hfg
  exact cP.of_x (ok_X1_become d I L f g hF hG hfg (by rw [e2]; exact h5)) rfl e1
/-- the copy shows what the other one did -/
theorem rF.bc {f g : Nat} {V : pI} (h : rF g I V) : rF f (bcI I f g) V := by
  obtain ⟨a1, a2, a3, a4, a5, a6, a7, a8⟩ := h
  refine ⟨?_, ?_, ?_, ?_, ?_, fun w hw => ?_, fun c hc j hj => ?_, fun k hk j hj => ?_⟩
  · rw [bcI_i, if_pos ⟨rfl, by omega⟩]; exact a1
  · rw [bcI_i, if_pos ⟨rfl, by omega⟩]; exact a2
  · rw [bcI_i, if_pos ⟨rfl, by omega⟩]; exact a3
  · rw [bcI_i, if_pos ⟨rfl, by omega⟩]; exact a4
  · rw [bcI_i, if_pos ⟨rfl, by omega⟩]; exact a5
  · rw [bcI_i, if_neg (by omega), if_pos ⟨rfl, hw⟩]; exact a6 w hw
  · rw [bcI_i, if_neg (by omega), if_neg (by omega), if_pos (by omega), show g + (f + 4 + c - f) = g + 4 + c by omega]; exact a7 c hc j hj
  · rw [bcI_i, if_neg (by omega), if_neg (by omega), if_neg (by omega), if_pos (by omega), show g + (f + 12 + k - f) = g + 12 + k by omega]; exact a8 k hk j hj
theorem bcI_o {f g a : Nat} (h : a < f ∨ f + 20 ≤ a) (b : Nat) : bcI I f g a b = I a b := by
  unfold bcI
  rw [if_neg (by omega), if_neg (by omega), if_neg (by omega), if_neg (by omega)]
theorem rF.cg8 {f : Nat} {I J V U : pI} (h : rF f I V) (zI : ∀ k, f ≤ k → k < f + 20 → ∀ j, J k j = I k j) (z : ∀ k j, fK8 k j → U k j = V k j) : rF f J U := by
  obtain ⟨a1, a2, a3, a4, a5, a6, a7, a8⟩ := h
  unfold rF
  rw [zI f (by omega) (by omega), zI f (by omega) (by omega), zI f (by omega) (by omega), zI f (by omega) (by omega), zI f (by omega) (by omega), z 108 0 (Or.inl ⟨rfl, by omega⟩), z 108 1 (Or.inl ⟨rfl, by omega⟩), z 108 6 (Or.inl ⟨rfl, by omega⟩), z 108 7 (Or.inl ⟨rfl, by omega⟩), z 108 8 (Or.inl ⟨rfl, by omega⟩)]
  refine ⟨a1, a2, a3, a4, a5, fun w hw => ?_, fun c hc j hj => ?_, fun k hk j hj => ?_⟩
  · rw [zI _ (by omega) (by omega), z 108 _ (Or.inl ⟨rfl, by omega⟩)]; exact a6 w hw
  · rw [zI _ (by omega) (by omega), z (110 + j) _ (Or.inr ⟨by omega, by omega, hc⟩)]; exact a7 c hc j hj
  · rw [zI _ (by omega) (by omega), z (116 + j) _ (Or.inr ⟨by omega, by omega, hk⟩)]; exact a8 k hk j hj
/-- an array as a field -/
def kV (T : Nat) (I : pI) : pI := fun k j => if k = 108 then (if j = 0 then I T 68 else if j = 1 then I T 69 else if j < 6 then I T (62 + j) else if j = 6 then I T 70 else if j = 7 then I T 71 else I T 72) else I T (8 * (k - 110) + j)
theorem mm_cy_s (J : pI) {p q sp dp n : Nat} (h : p ≠ q) : mm_u (mm_cy J p q sp dp n) q (dp + n) (mm_cy J p q sp dp n p (sp + n)) = mm_cy J p q sp dp (n + 1) := by
  funext a b
  have e : mm_cy J p q sp dp n p (sp + n) = J p (sp + n) := by rw [mm_cy_i, if_neg (fun z => h z.1)]
  rw [e, mm_u_i, mm_cy_i, mm_cy_i]
  by_cases h1 : a = q ∧ b = dp + n
  · rw [if_pos h1, if_pos (by omega), h1.2, show sp + (dp + n - dp) = sp + n by omega]
  · rw [if_neg h1]
    by_cases h2 : a = q ∧ dp ≤ b ∧ b < dp + n
    · rw [if_pos h2, if_pos (by omega)]
    · rw [if_neg h2, if_neg (by omega)]
theorem mm_cy_0 (J : pI) (p q sp dp : Nat) : mm_cy J p q sp dp 0 = J := by
  funext a b
  rw [mm_cy_i, if_neg (by omega)]

theorem nI_add_8 (f : Nat) : nI f + 8 = nI (f + 8) := by
  rw [← nI_add]; rfl

set_option maxHeartbeats 400000 in
theorem lp_car0 (d : Nat) (J : pI) {p q f n0 : Nat} (hp : mm_sh[p]? = some (100, 8)) (hq : mm_sh[q]? = some (100, n0)) (hpq : p ≠ q) (hf : f + 8 ≤ n0) (hn0 : n0 ≤ 80) : ∀ (n i : Nat) , i + n = 8 → gP mm_cs0 (d) 9 false (some .int) cX9_carries 3 [some (.ref 108), some (.ref p), some (.ref q), some (.int (nI f)), some (.int 0), some (.int (nI i))] [] (mm_sh, mm_R, (mm_cy J p q 0 f i), L) (pX (some (.int (nI (f + 8)))) L (fun K => K = (mm_cy J p q 0 f 8))) := by
  intro n
  induction n with
  | zero =>
    intro i  hi
    obtain rfl : i = 8 := by omega
    have hc1 : (8 : Int32) ≤ nI 8 := by decide
    refine gp_iload dX9_carries_3 rfl ?_
    refine gp_pu (st' := .int (8) :: _) dX9_carries_5 rfl ?_
    refine gp_icc (t := 44) dX9_carries_7 (by decide) c2_ge (fun h1 => ?_) (fun h1 => ?_)
    · have h1' := Int32.not_lt.mpr h1
      refine gp_iload_n dX9_carries_44 rfl ?_
      refine gp_pu (st' := .int (8) :: _) dX9_carries_45 rfl ?_
      refine gp_pu (st' := .int _ :: _) dX9_carries_47 rfl ?_
      refine gp_iret dX9_carries_48 rfl ?_
      (rw [nI_add_8]; exact pX.mk rfl rfl)
    · exact absurd hc1 h1
  | succ n ih =>
    intro i  hi
    have hc1 : ¬ (8 : Int32) ≤ nI i := nI_ge (b := 8) (by omega) (by omega)
    have zqe : nI f + nI i = nI (f + i) := nI_add f i
    have zq8 : mm_in (nI i) 8 = true := mm_in_8.mpr ⟨nI_pos' (by omega), nI_lt (b := 8) (by omega) (by omega)⟩
    have zqf : mm_in (nI f + nI i) n0 = true := by rw [zqe]; exact (mm_in_i (by omega)).mpr ⟨nI_pos' (by omega), nI_lt (by omega) (by omega)⟩
    refine gp_iload dX9_carries_3 rfl ?_
    refine gp_pu (st' := .int (8) :: _) dX9_carries_5 rfl ?_
    refine gp_icc (t := 44) dX9_carries_7 (by decide) c2_ge (fun h1 => ?_) (fun h1 => ?_)
    · exact absurd h1 hc1
    · have h1' := Int32.not_le.mp h1
      refine gp_iload dX9_carries_10 rfl ?_
      refine gp_ifc (t := 28) dX9_carries_12 (by decide) c1_eq (fun h2 => ?_) (fun h2 => ?_)
      · refine gp_aload_n dX9_carries_28 rfl ?_
        refine gp_iload_n dX9_carries_29 rfl ?_
        refine gp_iload dX9_carries_30 rfl ?_
        refine gp_pu (st' := .int _ :: _) dX9_carries_32 rfl ?_
        refine gp_aload_n dX9_carries_33 rfl ?_
        refine gp_iload dX9_carries_34 rfl ?_
        refine gp_ialv dX9_carries_36 (cs_none (by assumption)) hp zq8 (by first | exact rfl) ?_
        refine gp_ias dX9_carries_37 hq zqf ?_
        refine gp_iinc (v := (1)) (ls' := [some (.ref _), some (.ref _), some (.ref _), some (.int _), some (.int _), some (.int _)]) dX9_carries_38 rfl (by decide) rfl ?_
        refine gp_goto (t := 3) dX9_carries_41 (by decide) ?_
        (rw [zqe, nI_clamp (by omega), nI_clamp (by omega), nI_1]
         have ih' := ih (i + 1) (by omega)
         rw [← mm_cy_s J (sp := 0) (dp := f) (n := i) hpq, Nat.zero_add] at ih'
         exact ih')
      · exact absurd (by decide) h2

set_option maxHeartbeats 400000 in
theorem ca_0 (d : Nat) (J : pI) {p q f n0 : Nat} (hp : mm_sh[p]? = some (100, 8)) (hq : mm_sh[q]? = some (100, n0)) (hpq : p ≠ q) (hf : f + 8 ≤ n0) (hn0 : n0 ≤ 80) : cP (d + 1) 162 [.ref 108, .ref p, .ref q, .int (nI f), .int 0] (mm_sh, mm_R, J, L) (pX (some (.int (nI (f + 8)))) L (fun K => K = (mm_cy J p q 0 f 8))) := by
  refine cP.of_gP (d := d + 0) me_162 ⟨Nat.le_of_ble_eq_true rfl, rfl⟩ ?_
  show gP mm_cs0 _ _ _ _ _ _ [some (.ref _), some (.ref _), some (.ref _), some (.int _), some (.int _), none] [] _ _
  refine gp_pu (st' := .int (0) :: _) dX9_carries_0 rfl ?_
  refine gp_istore (ls' := [some (.ref _), some (.ref _), some (.ref _), some (.int _), some (.int _), some (.int _)]) dX9_carries_1 rfl (Nat.le_of_ble_eq_true rfl) ?_
  (have h := lp_car0 d (L := L) J hp hq hpq hf hn0 8 0 (by omega)
   rw [mm_cy_0] at h
   exact h)

set_option maxHeartbeats 400000 in
theorem lp_car1 (d : Nat) (J : pI) {p q f n0 : Nat} (hp : mm_sh[p]? = some (100, 8)) (hq : mm_sh[q]? = some (100, n0)) (hpq : p ≠ q) (hf : f + 8 ≤ n0) (hn0 : n0 ≤ 80) : ∀ (n i : Nat) , i + n = 8 → gP mm_cs0 (d) 9 false (some .int) cX9_carries 3 [some (.ref 108), some (.ref p), some (.ref q), some (.int (nI f)), some (.int 1), some (.int (nI i))] [] (mm_sh, mm_R, (mm_cy J q p f 0 i), L) (pX (some (.int (nI (f + 8)))) L (fun K => K = (mm_cy J q p f 0 8))) := by
  intro n
  induction n with
  | zero =>
    intro i  hi
    obtain rfl : i = 8 := by omega
    have hc1 : (8 : Int32) ≤ nI 8 := by decide
    refine gp_iload dX9_carries_3 rfl ?_
    refine gp_pu (st' := .int (8) :: _) dX9_carries_5 rfl ?_
    refine gp_icc (t := 44) dX9_carries_7 (by decide) c2_ge (fun h1 => ?_) (fun h1 => ?_)
    · have h1' := Int32.not_lt.mpr h1
      refine gp_iload_n dX9_carries_44 rfl ?_
      refine gp_pu (st' := .int (8) :: _) dX9_carries_45 rfl ?_
      refine gp_pu (st' := .int _ :: _) dX9_carries_47 rfl ?_
      refine gp_iret dX9_carries_48 rfl ?_
      (rw [nI_add_8]; exact pX.mk rfl rfl)
    · exact absurd hc1 h1
  | succ n ih =>
    intro i  hi
    have hc1 : ¬ (8 : Int32) ≤ nI i := nI_ge (b := 8) (by omega) (by omega)
    have zqe : nI f + nI i = nI (f + i) := nI_add f i
    have zq8 : mm_in (nI i) 8 = true := mm_in_8.mpr ⟨nI_pos' (by omega), nI_lt (b := 8) (by omega) (by omega)⟩
    have zqf : mm_in (nI f + nI i) n0 = true := by rw [zqe]; exact (mm_in_i (by omega)).mpr ⟨nI_pos' (by omega), nI_lt (by omega) (by omega)⟩
    refine gp_iload dX9_carries_3 rfl ?_
    refine gp_pu (st' := .int (8) :: _) dX9_carries_5 rfl ?_
    refine gp_icc (t := 44) dX9_carries_7 (by decide) c2_ge (fun h1 => ?_) (fun h1 => ?_)
    · exact absurd h1 hc1
    · have h1' := Int32.not_le.mp h1
      refine gp_iload dX9_carries_10 rfl ?_
      refine gp_ifc (t := 28) dX9_carries_12 (by decide) c1_eq (fun h2 => ?_) (fun h2 => ?_)
      · exact absurd h2 (by decide)
      · refine gp_aload_n dX9_carries_15 rfl ?_
        refine gp_iload dX9_carries_16 rfl ?_
        refine gp_aload_n dX9_carries_18 rfl ?_
        refine gp_iload_n dX9_carries_19 rfl ?_
        refine gp_iload dX9_carries_20 rfl ?_
        refine gp_pu (st' := .int _ :: _) dX9_carries_22 rfl ?_
        refine gp_ialv dX9_carries_23 (cs_none (by assumption)) hq zqf (by first | exact rfl) ?_
        refine gp_ias dX9_carries_24 hp zq8 ?_
        refine gp_goto (t := 38) dX9_carries_25 (by decide) ?_
        refine gp_iinc (v := (1)) (ls' := [some (.ref _), some (.ref _), some (.ref _), some (.int _), some (.int _), some (.int _)]) dX9_carries_38 rfl (by decide) rfl ?_
        refine gp_goto (t := 3) dX9_carries_41 (by decide) ?_
        (rw [zqe, nI_clamp (by omega), nI_clamp (by omega), nI_1]
         have ih' := ih (i + 1) (by omega)
         rw [← mm_cy_s J (sp := f) (dp := 0) (n := i) (Ne.symm hpq), Nat.zero_add] at ih'
         exact ih')

set_option maxHeartbeats 400000 in
theorem ca_1 (d : Nat) (J : pI) {p q f n0 : Nat} (hp : mm_sh[p]? = some (100, 8)) (hq : mm_sh[q]? = some (100, n0)) (hpq : p ≠ q) (hf : f + 8 ≤ n0) (hn0 : n0 ≤ 80) : cP (d + 1) 162 [.ref 108, .ref p, .ref q, .int (nI f), .int 1] (mm_sh, mm_R, J, L) (pX (some (.int (nI (f + 8)))) L (fun K => K = (mm_cy J q p f 0 8))) := by
  refine cP.of_gP (d := d + 0) me_162 ⟨Nat.le_of_ble_eq_true rfl, rfl⟩ ?_
  show gP mm_cs0 _ _ _ _ _ _ [some (.ref _), some (.ref _), some (.ref _), some (.int _), some (.int _), none] [] _ _
  refine gp_pu (st' := .int (0) :: _) dX9_carries_0 rfl ?_
  refine gp_istore (ls' := [some (.ref _), some (.ref _), some (.ref _), some (.int _), some (.int _), some (.int _)]) dX9_carries_1 rfl (Nat.le_of_ble_eq_true rfl) ?_
  (have h := lp_car1 d (L := L) J hp hq hpq hf hn0 8 0 (by omega)
   rw [mm_cy_0] at h
   exact h)
end P85
