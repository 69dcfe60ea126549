/-! PUBLIC METHODS: heats, the class -/
section P91
variable {I C J : pI} {L : pL} {N S : Nat}

/-- who wins of those at a, a + 1, .., a + n -/
def y_gw (T : Nat → Int32) (g : Nat → Nat) (a : Nat) : Nat → Nat
  | 0 => g a
  | n + 1 => if T (g (a + n + 1)) < T (y_gw T g a n) then g (a + n + 1) else y_gw T g a n
def y_nh (m k : Nat) : Nat := (m - 1) / k + 1
def y_ng (T : Nat → Int32) (g : Nat → Nat) (m k : Nat) : Nat → Nat := fun j => if j < (m - 1) / k then y_gw T g (j * k) (k - 1) else if j = (m - 1) / k then y_gw T g (j * k) (m - 1 - j * k) else g j
def y_ht (T : Nat → Int32) (k : Nat) : Nat → Nat → (Nat → Nat) → Nat → Nat × Nat
  | 0, _, g, c => (g 0, c)
  | f + 1, m, g, c => if m ≤ 1 then (g 0, c) else y_ht T k f (y_nh m k) (y_ng T g m k) (c + y_nh m k)
theorem y_gw_in {T : Nat → Int32} {g : Nat → Nat} {N : Nat} (a n : Nat) (h : ∀ j, a ≤ j → j ≤ a + n → g j < N) : y_gw T g a n < N := by
  induction n with
  | zero => exact h a (by omega) (by omega)
  | succ n ih =>
    unfold y_gw
    split
    · exact h _ (by omega) (by omega)
    · exact ih (fun j h1 h2 => h j h1 (by omega))
theorem nI_mul (a b : Nat) : nI a * nI b = nI (a * b) := by
  unfold nI
  exact (Int32.ofNat_mul a b).symm
theorem y_div {q p k : Nat} (hp : p < k) : (q * k + p) / k = q := by
  rw [Nat.add_comm, Nat.add_mul_div_right _ _ (by omega), Nat.div_eq_of_lt hp, Nat.zero_add]
/-- groups 0 .. q - 1 done, p + 1 of group q seen -/
def hoA (T : Nat → Int32) (g : Nat → Nat) (k q p : Nat) : Nat → Nat := fun j => if j < q then y_gw T g (j * k) (k - 1) else if j = q then y_gw T g (q * k) p else g j
theorem x_ho_g (T : Nat → Int32) (g : Nat → Nat) (k : Nat) (hk : 2 ≤ k) (hk4 : k ≤ 4) (N : Nat) (hN : N ≤ 8) (m : Nat) (hm : m ≤ 8) (hg : ∀ j, j < m → g j < N) (n : Nat) : ∀ (i q p : Nat) (M : pI), i = q * k + p + 1 → p < k → i + n = m → (∀ c, c < N → M 73 c = T c) → (∀ j, j < m → M 74 j = nI (hoA T g k q p j)) →
    ∃ q' p' M', x_ho (nI k) n i (q + 1) (nI (y_gw T g (q * k) p)) M = (nI (q' + 1), M') ∧ i + n = q' * k + p' + 1 ∧ p' < k ∧ (∀ a, a ≠ 74 → M' a = M a) ∧ (∀ j, j < m → M' 74 j = nI (hoA T g k q' p' j)) := by
  induction n with
  | zero => intro i q p M hi hp _ _ h; exact ⟨q, p, M, rfl, hi, hp, fun _ _ => rfl, h⟩
  | succ n ih =>
    intro i q p M hi hp h8 h73 h74
    have e1 : (q + 1) * k = q * k + k := Nat.succ_mul q k
    have e2 : q ≤ q * k := Nat.le_mul_of_pos_right q (by omega)
    have hgi : M 74 (nI i).toNatClampNeg = nI (g i) := by
      rw [nI_clamp (by omega), h74 i (by omega), hoA, if_neg (by omega), if_neg (by omega)]
    have hfl : y_gw T g (q * k) p < N := y_gw_in _ _ (fun j _ h2 => hg j (by omega))
    have hgl := hg i (by omega)
    unfold x_ho
    rw [hgi, nI_mul, nI_clamp (n := y_gw T g (q * k) p) (by omega), nI_clamp (n := g i) (by omega), h73 _ hfl, h73 _ hgl]
    by_cases z : p + 1 = k
    · rw [if_pos (by rw [e1, hi, ← z]; rfl)]
      obtain ⟨q', p', M', a1, a2, a3, a4, a5⟩ := ih (i + 1) (q + 1) 0 (mm_u M 74 (nI (q + 1 + 1) - 1).toNatClampNeg (nI (g i))) (by omega) (by omega) (by omega) (fun c hc => by rw [mm_u_o _ _ _ _ (by decide)]; exact h73 c hc) (fun j hj => by
        rw [nI_pred, nI_clamp (by omega), mm_u_i]
        unfold hoA
        by_cases y : j = q + 1
        · rw [if_pos ⟨rfl, y⟩, if_neg (by omega), if_pos y, e1]
          show nI (g i) = nI (g (q * k + k))
          rw [show i = q * k + k by omega]
        · rw [if_neg (fun w => y w.2), h74 j hj, hoA]
          by_cases x : j < q
          · rw [if_pos x, if_pos (by omega)]
          · rw [if_neg x]
            by_cases w : j = q
            · rw [if_pos w, if_pos (by omega), w, show p = k - 1 by omega]
            · rw [if_neg w, if_neg (by omega), if_neg (by omega)])
      refine ⟨q', p', M', ?_, by omega, a3, fun a ha => by rw [a4 a ha, mm_u_k _ _ _ ha], a5⟩
      rw [← a1]
      show x_ho (nI k) n (i + 1) (q + 1 + 1) (nI (g i)) _ = x_ho (nI k) n (i + 1) (q + 1 + 1) (nI (g ((q + 1) * k))) _
      rw [show (q + 1) * k = i by omega]
    · have hne : ¬ nI i = nI ((q + 1) * k) := by
        rw [nI_eq (by omega) (by omega)]; omega
      rw [if_neg hne]
      have hstep : y_gw T g (q * k) (p + 1) = if T (g i) < T (y_gw T g (q * k) p) then g i else y_gw T g (q * k) p := by
        rw [y_gw, show q * k + p + 1 = i by omega]
      by_cases y : T (y_gw T g (q * k) p) ≤ T (g i)
      · rw [if_pos y]
        rw [if_neg (Int32.not_lt.mpr y)] at hstep
        obtain ⟨q', p', M', a1, a2, a3, a4, a5⟩ := ih (i + 1) q (p + 1) (mm_u M 74 (nI (q + 1) - 1).toNatClampNeg (nI (y_gw T g (q * k) p))) (by omega) (by omega) (by omega) (fun c hc => by rw [mm_u_o _ _ _ _ (by decide)]; exact h73 c hc) (fun j hj => by
          rw [nI_pred, nI_clamp (by omega), mm_u_i]
          unfold hoA
          by_cases y : j = q
          · rw [if_pos ⟨rfl, y⟩, if_neg (by omega), if_pos y, hstep]
          · rw [if_neg (fun w => y w.2), h74 j hj, hoA]
            by_cases x : j < q
            · rw [if_pos x, if_pos x]
            · rw [if_neg x, if_neg y, if_neg x, if_neg y])
        rw [hstep] at a1
        exact ⟨q', p', M', a1, by omega, a3, fun a ha => by rw [a4 a ha, mm_u_k _ _ _ ha], a5⟩
      · rw [if_neg y]
        rw [if_pos (Int32.not_le.mp y)] at hstep
        obtain ⟨q', p', M', a1, a2, a3, a4, a5⟩ := ih (i + 1) q (p + 1) (mm_u M 74 (nI (q + 1) - 1).toNatClampNeg (nI (g i))) (by omega) (by omega) (by omega) (fun c hc => by rw [mm_u_o _ _ _ _ (by decide)]; exact h73 c hc) (fun j hj => by
          rw [nI_pred, nI_clamp (by omega), mm_u_i]
          unfold hoA
          by_cases y : j = q
          · rw [if_pos ⟨rfl, y⟩, if_neg (by omega), if_pos y, hstep]
          · rw [if_neg (fun w => y w.2), h74 j hj, hoA]
            by_cases x : j < q
            · rw [if_pos x, if_pos x]
            · rw [if_neg x, if_neg y, if_neg x, if_neg y])
        rw [hstep] at a1
        exact ⟨q', p', M', a1, by omega, a3, fun a ha => by rw [a4 a ha, mm_u_k _ _ _ ha], a5⟩
theorem hoA_ng {T : Nat → Int32} {g : Nat → Nat} {m k q p : Nat} (h : m = q * k + p + 1) (hp : p < k) : y_nh m k = q + 1 ∧ ∀ j, hoA T g k q p j = y_ng T g m k j := by
  have e : (m - 1) / k = q := by rw [show m - 1 = q * k + p by omega]; exact y_div hp
  refine ⟨by unfold y_nh; rw [e], fun j => ?_⟩
  unfold hoA y_ng
  rw [e]
  by_cases x : j < q
  · rw [if_pos x, if_pos x]
  · rw [if_neg x, if_neg x]
    by_cases y : j = q
    · rw [if_pos y, if_pos y, y, show m - 1 - q * k = p by omega]
    · rw [if_neg y, if_neg y]
theorem y_ng_in {T : Nat → Int32} {g : Nat → Nat} {m k N : Nat} (hk : 2 ≤ k) (hm : m ≤ 8) (h0 : 0 < m) (hg : ∀ j, j < m → g j < N) : (∀ j, j < m → y_ng T g m k j < N) ∧ y_nh m k ≤ m ∧ 0 < y_nh m k ∧ (2 ≤ m → y_nh m k < m) := by
  have hd := Nat.div_mul_le_self (m - 1) k
  have hd2 : (m - 1) / k ≤ (m - 1) / 2 := Nat.div_le_div_left hk (by omega)
  refine ⟨fun j hj => ?_, ?_, Nat.succ_pos _, fun h => ?_⟩
  case refine_2 => show (m - 1) / k + 1 ≤ m; generalize (m - 1) / k = D at *; omega
  case refine_3 => show (m - 1) / k + 1 < m; generalize (m - 1) / k = D at *; omega
  unfold y_ng
  split
  · rename_i x
    refine y_gw_in _ _ (fun i _ h2 => hg i ?_)
    have : (j + 1) * k ≤ (m - 1) / k * k := Nat.mul_le_mul_right k (by omega)
    rw [Nat.succ_mul] at this
    omega
  · split
    · rename_i x
      refine y_gw_in _ _ (fun i _ h2 => hg i ?_)
      rw [x] at h2
      omega
    · exact hg j hj
theorem ct_hor (d : Nat) (hs : sc I J) {N m k : Nat} (hN : N ≤ 8) (hk : 2 ≤ k) (hk4 : k ≤ 4) (hm : m ≤ 8) (h0 : 0 < m) (T : Nat → Int32) (g : Nat → Nat) (hg : ∀ j, j < m → g j < N) (h73 : ∀ c, c < N → J 73 c = T c) (h74 : ∀ j, j < m → J 74 j = nI (g j)) :
    cP (d + 1) 120 [.ref 0, .int (nI m), .int (nI k)] (mm_sh, mm_R, J, L) (pX (some (.int (nI (y_nh m k)))) L (fun K => sc I K ∧ (∀ c, c < N → K 73 c = T c) ∧ ∀ j, j < m → K 74 j = nI (y_ng T g m k j))) := by
  have hin : ∀ j, j < m → mm_in (J 74 j) 8 = true := fun j hj => by
    rw [h74 j (by omega)]
    have := hg j (by omega)
    exact mm_in_8.mpr ⟨nI_pos' (by omega), nI_lt (b := 8) (by omega) (by omega)⟩
  obtain ⟨n, rfl⟩ : ∃ n, m = n + 1 := ⟨m - 1, by omega⟩
  have e0 : x_ho (nI k) (n + 1) 0 0 0 J = x_ho (nI k) n 1 1 (nI (g 0)) (mm_u J 74 0 (nI (g 0))) := by
    rw [x_ho, if_pos (by rw [nI_mul, Nat.zero_mul])]
    have : J 74 (nI 0).toNatClampNeg = nI (g 0) := h74 0 (by omega)
    rw [this]
    rfl
  obtain ⟨q', p', M', a1, a2, a3, a4, a5⟩ := x_ho_g T g k hk hk4 N hN (n + 1) hm hg n 1 0 0 (mm_u J 74 0 (nI (g 0))) (by omega) (by omega) (by omega) (fun c hc => by rw [mm_u_o _ _ _ _ (by decide)]; exact h73 c hc) (fun j hj => by
    rw [mm_u_i]
    unfold hoA
    by_cases y : j = 0
    · rw [if_pos ⟨rfl, y⟩, if_neg (by omega), if_pos y, Nat.zero_mul]; rfl
    · rw [if_neg (fun w => y w.2), if_neg (by omega), if_neg y]; exact h74 j hj)
  rw [Nat.zero_mul] at a1
  have e1 : x_ho (nI k) (n + 1) 0 0 0 J = (nI (q' + 1), M') := by rw [e0]; exact a1
  obtain ⟨b1, b2⟩ := hoA_ng (T := T) (g := g) (m := n + 1) (k := k) (q := q') (p := p') (by omega) a3
  refine cP.of_x (ok_X8_heatsOfRound d J L (n + 1) hm (nI k) hin) (by rw [e1, b1]) ?_
  rw [e1]
  show sc I M' ∧ (∀ c, c < N → M' 73 c = T c) ∧ ∀ j, j < n + 1 → M' 74 j = nI (y_ng T g (n + 1) k j)
  refine ⟨fun a j z => ?_, fun c hc => ?_, fun j hj => by rw [a5 j hj, b2 j]⟩
  · have : a ≠ 74 := fun q => by rw [q] at z; cases z
    rw [a4 a this, mm_u_k _ _ _ this]
    exact hs a j z
  · rw [a4 73 (by decide), mm_u_o _ _ _ _ (by decide)]; exact h73 c hc
end P91
