/-! PUBLIC METHODS: image, restore -/
section P87
variable {I C J : pI} {L : pL} {N S : Nat}

theorem scr_lo {k : Nat} (h : 108 ≤ k) (h2 : k ≤ 125 ∨ k = 128 ∨ 137 ≤ k) (h3 : k ≠ 108) (j : Nat) : scr k j = false := by
  have nb : ∀ a b : Nat, ¬ a ≤ b → Nat.ble a b = false := fun a b hm => by
    cases q : Nat.ble a b with
    | false => rfl
    | true => exact absurd (Nat.le_of_ble_eq_true q) hm
  have ne : ∀ a b : Nat, a ≠ b → Nat.beq a b = false := fun a b hm => by
    cases q : Nat.beq a b with
    | false => rfl
    | true => exact absurd (Nat.eq_of_beq_eq_true q) hm
  have l : (Nat.ble 129 k && Nat.ble k 136) = false := by
    rw [Bool.and_eq_false_iff]
    rcases h2 with q | q | q
    · left; exact nb _ _ (by omega)
    · left; exact nb _ _ (by omega)
    · right; exact nb _ _ (by omega)
  unfold scr
  rw [l, nb k 40 (by omega), ne k 62 (by omega), ne k 63 (by omega), nb k 70 (by omega), ne k 71 (by omega), ne k 73 (by omega), ne k 74 (by omega), nb k 107 (by omega), ne k 108 h3, ne k 126 (by omega), ne k 127 (by omega)]
  simp
theorem mR.g (h : mR I C J) {k : Nat} (h1 : 108 ≤ k) (h2 : k ≤ 125 ∨ k = 128 ∨ 137 ≤ k) (h3 : k ≠ 108) (j : Nat) : J k j = I k j := h.1 k j (by rw [scr_lo h1 h2 h3 j, Nat.ble_eq_true_of_le h1]; rfl)
theorem mR.alA (h : mR I C J) : mR (alA9 128 I) C (alA9 128 J) := by
  refine ⟨fun k j z => ?_, fun k hk => ?_⟩
  · rw [alA9_i 128 (by omega), alA9_i 128 (by omega), h.r (j := 0) (by omega), h.r (j := 1) (by omega), h.r (j := 2) (by omega), h.r (j := 3) (by omega), h.r (j := 4) (by omega), h.r (j := 5) (by omega), h.r (j := 6) (by omega), h.r (j := 7) (by omega), h.r (j := 8) (by omega), h.1 k j z]
    by_cases q : k = 128 ∧ j < 64
    · rw [if_pos q, if_pos q, h.g (by omega) (by omega) (by omega)]
    · rw [if_neg q, if_neg q]
  · rw [← h.2 k hk]
    funext j
    rw [(alA9_x 128 (by omega) J).1 k (by omega)]
theorem alB_lo (J : pI) {k : Nat} (hk : k < 108) (j : Nat) : alB9 128 J k j = J k j := (alB9_x 128 (by omega) J).2 k j (by rintro (z | z) <;> omega)
theorem mR.alB (h : mR I C J) : mR (alB9 128 I) C (alB9 128 J) := by
  refine ⟨fun k j z => ?_, fun k hk => ?_⟩
  · rw [alB9_i 128 (by omega), alB9_i 128 (by omega)]
    have e : ∀ q, J 128 q = I 128 q := fun q => h.g (by omega) (by omega) (by omega) q
    simp only [e, h.1 k j z]
  · rw [← h.2 k hk]
    funext j
    exact alB_lo J hk j

set_option maxHeartbeats 400000 in
theorem cl_image (d : Nat) (hb : bR I N S) : cP (d + 3) 97 [.ref 0] (mm_sh, mm_R, I, L) (pX (some (.int (nI N))) L (sc (mm_u (bcI I 41 1) 0 3 1))) := by
  have hs := sc.rf I
  have e11 : I 1 1 = nI N := hb.c11 hs
  have e13 : I 1 3 = nI S := hb.c13 hs
  refine cP.of_gP (d := d + 2) me_97 ⟨Nat.le_of_ble_eq_true rfl, rfl⟩ ?_
  show gP mm_cs0 _ _ _ _ _ _ [some (.ref _)] [] _ _
  refine gp_aload_n dX8_image_0 rfl ?_
  refine gp_gr dX8_image_1 mf_8_19 rfl (by first | rfl | assumption | (simp only [*]; done)) (by first | rfl | assumption | (simp only [*]; done)) ?_
  refine gp_aload_n dX8_image_4 rfl ?_
  refine gp_gr dX8_image_5 mf_8_10 rfl (by first | rfl | assumption | (simp only [*]; done)) (by first | rfl | assumption | (simp only [*]; done)) ?_
  refine gp_callX (kind := 1) (args := [.ref _, .ref _]) (rest := _) dX8_image_8 (Or.inr (Or.inl ⟨rfl, rfl⟩)) mk_8_241 (by decide) me_9 rfl rfl rfl rfl rfl (mm_rc_of (by first | rfl | assumption | (simp only [*]; done))) (ct_become _ isF_41 isF_1 (by decide) (i_z2 hb)) ?_
  intro K1 hK1
  rw [hK1]
  refine gp_aload_n dX8_image_11 rfl ?_
  refine gp_pu (st' := .int (1) :: _) dX8_image_12 rfl ?_
  refine gp_pz dX8_image_13 mf_8_353 rfl rfl (by first | exact Or.inl rfl | exact Or.inr rfl | assumption) (by first | rfl | assumption | (simp only [*]; done)) ?_
  have zqk : mm_u (bcI I 41 1) 0 3 1 41 1 = nI N := by rw [mm_u_o _ _ _ _ (by decide), bcI_i, if_pos ⟨rfl, Or.inl rfl⟩]; exact e11
  refine gp_aload_n dX8_image_16 rfl ?_
  refine gp_gr dX8_image_17 mf_8_19 rfl (by first | rfl | assumption | (simp only [*]; done)) (by first | rfl | assumption | (simp only [*]; done)) ?_
  refine gp_giv dX8_image_20 mf_8_154 (by decide) (by first | rfl | assumption | (simp only [*]; done)) (by first | exact zqk | exact rfl) ?_
  refine gp_iret dX8_image_23 rfl ?_
  exact pX.mk rfl (sc.rf _)

set_option maxHeartbeats 400000 in
theorem ml_image (d : Nat) (v : vN I N S) (hs : mR I C J) : cP (d + 3) 218 [.ref 108] (mm_sh, mm_R, J, L) (pX (some (.int (nI N))) L (mR (alA9 128 (mm_u I 108 58 1)) C)) := by
  have m0 : J 108 0 = nI N := (hs.r (by decide)).trans v.2.2.1
  have m1 : J 108 1 = nI S := (hs.r (by decide)).trans v.2.2.2.1
  refine cP.of_gP (d := d + 2) me_218 ⟨Nat.le_of_ble_eq_true rfl, rfl⟩ ?_
  show gP mm_cs0 _ _ _ _ _ _ [some (.ref _)] [] _ _
  refine gp_aload_n dX9_image_0 rfl ?_
  refine gp_pu (st' := .int (1) :: _) dX9_image_1 rfl ?_
  refine gp_pz dX9_image_2 mf_9_361 rfl rfl (by first | exact Or.inl rfl | exact Or.inr rfl | assumption) (by first | rfl | assumption | (simp only [*]; done)) ?_
  refine gp_aload_n dX9_image_5 rfl ?_
  refine gp_aload_n dX9_image_6 rfl ?_
  refine gp_gr dX9_image_7 mf_9_87 rfl (by first | rfl | assumption | (simp only [*]; done)) (by first | rfl | assumption | (simp only [*]; done)) ?_
  refine gp_pu (st' := .int (0) :: _) dX9_image_10 rfl ?_
  refine gp_callX (kind := 1) (args := [.ref _, .ref _, .int _]) (rest := _) dX9_image_11 (Or.inr (Or.inl ⟨rfl, rfl⟩)) mk_9_217 (by decide) me_163 rfl rfl rfl rfl rfl (mm_rc_of (by first | rfl | assumption | (simp only [*]; done))) (all_0 _ _ (by decide) rfl) ?_
  intro K1 hK1
  rw [hK1]
  have zqk : alA9 128 (mm_u J 108 58 1) 108 0 = nI N := by rw [(alA9_x 128 (by omega) _).1 108 (by decide), mm_u_j _ _ (by decide)]; exact m0
  refine gp_aload_n dX9_image_14 rfl ?_
  refine gp_giv dX9_image_15 mf_9_117 (by decide) (by first | rfl | assumption | (simp only [*]; done)) (by first | exact zqk | exact rfl) ?_
  refine gp_iret dX9_image_18 rfl ?_
  exact pX.mk rfl (hs.uu (by decide)).alA

theorem kI_kV (I : pI) : kI I = kV 128 I := rfl
theorem eq_image : eqc 97 218 [] := by
  refine eqc_of fun I L hR => ?_
  obtain ⟨N, S, hb, hS, hL, hK, hT, hW, hE⟩ := hR
  have hx := alA9_x 128 (by omega) (mm_u I 108 58 1)
  refine ⟨_, L, mm_u (bcI I 41 1) 0 3 1, alA9 128 (mm_u I 108 58 1), L, cl_image 37 hb, fun k hk => ?_, fun C J hs => ml_image 37 hb.1 hs, ?_⟩
  · funext j
    rw [mm_u_o _ _ _ _ (by omega), bcI_o (by omega)]
  · have eC : ∀ k j, k < 108 → (k = 0 → j ≠ 3) → ¬ (41 ≤ k ∧ k < 61) → mg (mm_u (bcI I 41 1) 0 3 1) (alA9 128 (mm_u I 108 58 1)) k j = I k j := fun k j hk h0 h4 => by
      rw [mg_c _ _ hk, mm_u_i, if_neg (fun z => h0 z.1 z.2), bcI_o (by omega)]
    have eM : ∀ k j, 108 ≤ k → (k = 108 → j ≠ 58) → k ≠ 128 → mg (mm_u (bcI I 41 1) 0 3 1) (alA9 128 (mm_u I 108 58 1)) k j = I k j := fun k j hk h0 h4 => by
      rw [mg_r _ _ hk, hx.1 k h4, mm_u_i, if_neg (fun z => h0 z.1 z.2)]
    have eF : ∀ k j, fK k j → mg (mm_u (bcI I 41 1) 0 3 1) (alA9 128 (mm_u I 108 58 1)) k j = I k j := fun k j z => eM k j (by rcases z with z | z <;> omega) (by rcases z with z | z <;> omega) (by rcases z with z | z <;> omega)
    have eK : ∀ k j, fK8 k j → kI (mg (mm_u (bcI I 41 1) 0 3 1) (alA9 128 (mm_u I 108 58 1))) k j = I k j := fun k j z => by
      have : kI (mg (mm_u (bcI I 41 1) 0 3 1) (alA9 128 (mm_u I 108 58 1))) = kI (alA9 128 (mm_u I 108 58 1)) := kI.cg fun j => by rw [mg_r _ _ (by omega)]
      rw [this, kI_kV, hx.2 k j z, mm_u_i, if_neg (by rcases z with z | z <;> omega)]
    refine ⟨N, S, ⟨hb.1.cg eF, hb.2.cg (fun k a b j => eC k j (by omega) (by omega) (by omega)) eF⟩, fun q hq => (hS q hq).cg (fun j => eC _ j (by omega) (by omega) (by omega)) (eM _ _ (by omega) (by omega) (by omega)) (eM _ _ (by omega) (by omega) (by omega)) (eM _ _ (by omega) (by omega) (by omega)) (eM _ _ (by omega) (by omega) (by omega)) (eM _ _ (by omega) (by omega) (by omega)), hL, ?_, hT.cg (eC _ _ (by omega) (by omega) (by omega)) (eM _ _ (by omega) (by omega) (by omega)) (fun j => eC _ j (by omega) (by omega) (by omega)) (fun j => eM _ j (by omega) (by omega) (by omega)), hW.cg (fun j => eM _ j (by omega) (by omega) (by omega)) (fun j => eM _ j (by omega) (by omega) (by omega)), hE.cg (eC _ _ (by omega) (by omega) (by omega)) (eM _ _ (by omega) (by omega) (by omega)) (fun j => eC _ j (by omega) (by omega) (by omega)) (fun j => eM _ j (by omega) (by omega) (by omega))⟩
    have h1 : mg (mm_u (bcI I 41 1) 0 3 1) (alA9 128 (mm_u I 108 58 1)) 0 3 = 1 := by rw [mg_c _ _ (by omega), mm_u_s]
    have h2 : mg (mm_u (bcI I 41 1) 0 3 1) (alA9 128 (mm_u I 108 58 1)) 108 58 = 1 := by rw [mg_r _ _ (by omega), hx.1 108 (by omega), mm_u_s]
    refine ⟨h1.trans h2.symm, Or.inr ⟨h2, ?_, N, S, hb.1.cg8 eK⟩⟩
    exact (rF.bc (f := 41) hb.2).cg8 (fun k a b j => by rw [mg_c _ _ (by omega), mm_u_o _ _ _ _ (by omega)]) eK
/-- shelves with a child that isn't there hold nothing -/
def rsC (J : pI) (N n : Nat) : pI := fun a b => if 76 ≤ a ∧ a < 76 + 2 * n ∧ a % 2 = 0 ∧ (0 ≤ J a 0 ∧ J a 0 < 100 ∧ ¬ (0 ≤ J a 0 ∧ J a 0 < nI N)) ∧ b < 2 then (if b = 0 then -1 else 0) else J a b
def rsM (J : pI) (N n : Nat) : pI := fun a b => if a = 118 ∧ b < n ∧ J 118 b = 2 ∧ nI N ≤ J 121 b then 0 else J a b
theorem rsC_0 (J : pI) (N : Nat) : rsC J N 0 = J := by funext a b; exact if_neg (by omega)
theorem rsM_0 (J : pI) (N : Nat) : rsM J N 0 = J := by funext a b; exact if_neg (by omega)
theorem rsC_o (J : pI) (N n : Nat) {a : Nat} (h : a < 76 ∨ 76 + 2 * n ≤ a) : rsC J N n a = J a := by funext b; exact if_neg (by omega)
theorem rsC_t (J : pI) (N i : Nat) (h : 0 ≤ J (76 + 2 * i) 0 ∧ J (76 + 2 * i) 0 < 100) (h2 : ¬ (0 ≤ J (76 + 2 * i) 0 ∧ J (76 + 2 * i) 0 < nI N)) : sr (rsC J N i) (76 + 2 * i) (upd (upd (rsC J N i (76 + 2 * i)) 0 (-1)) 1 0) = rsC J N (i + 1) := by
  rw [rsC_o J N i (a := 76 + 2 * i) (by omega)]
  funext a b
  rw [sr_i]
  by_cases z : a = 76 + 2 * i
  · subst z
    rw [if_pos rfl]
    unfold rsC upd
    by_cases h1 : b = 1
    · rw [if_pos h1, if_pos ⟨by omega, by omega, by omega, ⟨h.1, h.2, h2⟩, by omega⟩, if_neg (by omega)]
    · rw [if_neg h1]
      by_cases h0 : b = 0
      · rw [if_pos h0, if_pos ⟨by omega, by omega, by omega, ⟨h.1, h.2, h2⟩, by omega⟩, if_pos h0]
      · rw [if_neg h0, if_neg (by omega)]
  · rw [if_neg z]
    unfold rsC
    by_cases y : 76 ≤ a ∧ a < 76 + 2 * i ∧ a % 2 = 0 ∧ (0 ≤ J a 0 ∧ J a 0 < 100 ∧ ¬ (0 ≤ J a 0 ∧ J a 0 < nI N)) ∧ b < 2
    · have y' : 76 ≤ a ∧ a < 76 + 2 * (i + 1) ∧ a % 2 = 0 ∧ (0 ≤ J a 0 ∧ J a 0 < 100 ∧ ¬ (0 ≤ J a 0 ∧ J a 0 < nI N)) ∧ b < 2 := ⟨y.1, by omega, y.2.2⟩
      rw [if_pos y, if_pos y']
    · rw [if_neg y, if_neg (fun q => y ⟨q.1, by omega, q.2.2⟩)]
theorem rsC_f (J : pI) (N i : Nat) (h : ¬ ((0 ≤ J (76 + 2 * i) 0 ∧ J (76 + 2 * i) 0 < 100) ∧ ¬ (0 ≤ J (76 + 2 * i) 0 ∧ J (76 + 2 * i) 0 < nI N))) : rsC J N i = rsC J N (i + 1) := by
  funext a b
  unfold rsC
  by_cases y : 76 ≤ a ∧ a < 76 + 2 * i ∧ a % 2 = 0 ∧ (0 ≤ J a 0 ∧ J a 0 < 100 ∧ ¬ (0 ≤ J a 0 ∧ J a 0 < nI N)) ∧ b < 2
  · have y' : 76 ≤ a ∧ a < 76 + 2 * (i + 1) ∧ a % 2 = 0 ∧ (0 ≤ J a 0 ∧ J a 0 < 100 ∧ ¬ (0 ≤ J a 0 ∧ J a 0 < nI N)) ∧ b < 2 := ⟨y.1, by omega, y.2.2⟩
    rw [if_pos y, if_pos y']
  · rw [if_neg y, if_neg]
    rintro ⟨q1, q2, q3, q4, q5⟩
    by_cases z : a = 76 + 2 * i
    · subst z; exact h ⟨⟨q4.1, q4.2.1⟩, q4.2.2⟩
    · exact y ⟨q1, by omega, q3, q4, q5⟩
theorem rsM_t (J : pI) (N i : Nat) (h : J 118 i = 2) (h2 : nI N ≤ J 121 i) : mm_u (rsM J N i) 118 i 0 = rsM J N (i + 1) := by
  funext a b
  rw [mm_u_i]
  unfold rsM
  by_cases z : a = 118 ∧ b = i
  · rw [if_pos z, if_pos ⟨z.1, by omega, by rw [z.2]; exact h, by rw [z.2]; exact h2⟩]
  · rw [if_neg z]
    by_cases y : a = 118 ∧ b < i ∧ J 118 b = 2 ∧ nI N ≤ J 121 b
    · rw [if_pos y, if_pos ⟨y.1, by omega, y.2.2⟩]
    · rw [if_neg y, if_neg (fun q => y ⟨q.1, by omega, q.2.2⟩)]
theorem rsM_f (J : pI) (N i : Nat) (h : ¬ (J 118 i = 2 ∧ nI N ≤ J 121 i)) : rsM J N i = rsM J N (i + 1) := by
  funext a b
  unfold rsM
  by_cases y : a = 118 ∧ b < i ∧ J 118 b = 2 ∧ nI N ≤ J 121 b
  · rw [if_pos y, if_pos ⟨y.1, by omega, y.2.2⟩]
  · rw [if_neg y, if_neg]
    rintro ⟨q1, q2, q3, q4⟩
    by_cases z : b = i
    · subst z; exact h ⟨q3, q4⟩
    · exact y ⟨q1, by omega, q3, q4⟩
theorem rsM_o (J : pI) (N n : Nat) {a b : Nat} (h : a ≠ 118 ∨ n ≤ b) : rsM J N n a b = J a b := if_neg (by omega)
end P87
