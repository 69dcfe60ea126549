/-! PUBLIC METHODS: given -/
section P98t
variable {I C J K : pI} {L : pL} {N S : Nat} {k : Nat} {law : Int32}

theorem cz_timeIn (d : Nat) (hb : bR I N S) (hs : sc I J) {c s : Nat} (hc : c < N) (hk : s < S) : cP (d + 5) 111 [.ref 0, .int (nI c), .int (nI s)] (mm_sh, mm_R, J, L) (pX (some (.int (tS I c s))) L (fun K => sc I K ∧ ∀ a, a ≠ 62 → a ≠ 63 → K a = J a)) := by
  have hN8 := hb.n.1
  have hS8 := hb.n.2.1
  have hc' : 0 ≤ nI c ∧ nI c < nI N := ⟨nI_pos' (by omega), nI_lt hc (by omega)⟩
  refine cP.of_x (ok_X8_timeIn d J L (nI c) (hb.nOk hs hc') _) ?_ ⟨hs.inn (nI c) (nI s), fun a h1 h2 => x_end_inn J (nI c) (nI s) h1 h2⟩
  rw [tim_in hb hs hc' ⟨nI_pos' (by omega), nI_lt hk (by omega)⟩, nI_clamp (by omega)]
  rfl
theorem mz_inWith (d : Nat) (v : vN I N S) (hs : mR I C J) {c s : Nat} (hc : c < N) (hk : s < S) : cP (d + 7) 181 [.ref 108, .int (nI c), .int (nI s)] (mm_sh, mm_R, J, L) (pX (some (.int (tS I c s))) L (fun K => mR I C K ∧ ∀ a, a ≠ 108 → K a = J a)) := by
  have hN8 := v.1
  have hS8 := v.2.1
  have hc' : 0 ≤ nI c ∧ nI c < nI N := ⟨nI_pos' (by omega), nI_lt hc (by omega)⟩
  obtain ⟨a1, a2, a3, a4, a5, a6, a7, a8, a9⟩ := puts_q hs (nI c)
  obtain ⟨b1, b2, b3, b4⟩ := putsIn_q hs a1 (nI s)
  refine cP.of_x (ok_X9_inWith d J L (nI c) (v.in8 hc') (v.sin hs hc') (v.kd hs hc') (nI s) (Or.inr (v.sk8 ⟨nI_pos' (by omega), nI_lt hk (by omega)⟩))) ?_ ⟨hs.inM fun j hj => by rw [b2 j (by omega) (by omega), a9 j (by omega)], fun a ha => sr_other _ _ ha⟩
  rw [m_in_q b1 (by rw [b2 37 (by decide) (by decide)]; exact b3) b4, b2 35 (by decide) (by decide), b2 36 (by decide) (by decide), b2 37 (by decide) (by decide), b2 40 (by decide) (by decide), b2 41 (by decide) (by decide), a2, a3, a4, a5, a6, nI_clamp (by omega)]
  rfl
/-- the table at cell a is told up to child c, sack s -/
def tbl (I : pI) (a S c s : Nat) (J : pI) : Prop := ∀ c' s', s' < S → (c' < c ∨ (c' = c ∧ s' < s)) → J a (8 * c' + s') = tS I c' s'
theorem tbl.nx {a c s : Nat} (h : tbl I a S c s J) (hS : S ≤ 8) (hs : s < S) (zqk : K a = J a) : tbl I a S c (s + 1) (mm_u K a (8 * c + s) (tS I c s)) := by
  intro c' s' h1 h2
  rw [mm_u_i]
  by_cases z : 8 * c' + s' = 8 * c + s
  · rw [if_pos ⟨rfl, z⟩, show c' = c by omega, show s' = s by omega]
  · rw [if_neg (fun q => z q.2), zqk]
    exact h c' s' h1 (by omega)
theorem tbl.row {a c : Nat} (h : tbl I a S c S J) : tbl I a S (c + 1) 0 J := fun c' s' h1 h2 => h c' s' h1 (by omega)
def w_gi (N S : Nat) (l n i : Int32) : Int32 := if l < 0 ∨ 2 < l ∨ n < 1 ∨ 5 < n ∨ nI N < n ∨ nI S < n then -6 else if ¬ i = -1 ∧ (i < 0 ∨ n ≤ i) then -5 else 0
theorem w_gi_w (N S : Nat) (l n i : Int32) : w_gi N S l n i = 0 ∨ isW (w_gi N S l n i) := by unfold w_gi; (repeat' split) <;> first | exact Or.inl rfl | (right; unfold isW; decide)
theorem w_gi_0 {N S : Nat} {l n i : Int32} (h : w_gi N S l n i = 0) : ¬ (l < 0 ∨ 2 < l ∨ n < 1 ∨ 5 < n ∨ nI N < n ∨ nI S < n) ∧ ¬ (¬ i = -1 ∧ (i < 0 ∨ n ≤ i)) := by
  unfold w_gi at h
  by_cases a : l < 0 ∨ 2 < l ∨ n < 1 ∨ 5 < n ∨ nI N < n ∨ nI S < n
  · rw [if_pos a] at h; exact absurd h (by decide)
  · rw [if_neg a] at h
    by_cases b : ¬ i = -1 ∧ (i < 0 ∨ n ≤ i)
    · rw [if_pos b] at h; exact absurd h (by decide)
    · exact ⟨a, b⟩
/-- how many children: k, a number -/
theorem gi_k {n l : Int32} (hN : N ≤ 8) (hS : S ≤ 8) (h : ¬ (l < 0 ∨ 2 < l ∨ n < 1 ∨ 5 < n ∨ nI N < n ∨ nI S < n)) : ∃ k : Nat, n = nI k ∧ 0 < k ∧ k ≤ 5 ∧ k ≤ N ∧ k ≤ S := by
  have e5 : (5 : Int32).toInt = 5 := by decide
  simp only [not_or, ti_lt, ti_1, e5, ti_nI (show N ≤ 2000 by omega), ti_nI (show S ≤ 2000 by omega)] at h
  obtain ⟨-, -, h1, h2, h3, h4⟩ := h
  refine ⟨n.toNatClampNeg, (nI_cl (by rw [ti_le, ti_0]; omega)).symm, ?_, ?_, ?_, ?_⟩ <;> unfold Int32.toNatClampNeg <;> omega
theorem gi_i {i : Int32} (hk : k ≤ 5) (h : ¬ (¬ i = -1 ∧ (i < 0 ∨ nI k ≤ i))) (hi : ¬ i = -1) : i.toNatClampNeg < k ∧ mm_in i 5 = true := by
  have h2 : ¬ (i < 0 ∨ nI k ≤ i) := fun q => h ⟨hi, q⟩
  simp only [not_or, Int32.not_lt, Int32.not_le] at h2
  have := cl_ti h2.1 h2.2 (by omega)
  exact ⟨this, mm_in_5.mpr ⟨h2.1, Int32.lt_of_lt_of_le h2.2 (nI_le (b := 5) hk (by omega))⟩⟩
theorem gi_a {n i : Int32} (h : i < -1) : ¬ i = -1 ∧ (i < 0 ∨ n ≤ i) := by
  rw [ti_lt, ti_n1] at h
  refine ⟨fun q => ?_, Or.inl ?_⟩
  · rw [q, ti_n1] at h; omega
  · rw [ti_lt, ti_0]; omega
theorem gi_b {n i : Int32} (h : ¬ n < 1) (h2 : ¬ i < n) : ¬ i = -1 ∧ (i < 0 ∨ n ≤ i) := by
  rw [ti_lt, ti_1] at h
  rw [ti_lt] at h2
  refine ⟨fun q => ?_, Or.inr ?_⟩
  · rw [q, ti_n1] at h2; omega
  · rw [ti_le]; omega
theorem gi_c {n i : Int32} (h : ¬ i < -1) (h2 : i < n) : ¬ (¬ i = -1 ∧ (i < 0 ∨ n ≤ i)) := by
  rw [ti_lt, ti_n1] at h
  rw [ti_lt] at h2
  rintro ⟨q1, q2⟩
  rw [ti_lt, ti_le, ti_0] at q2
  rw [ti_eq, ti_n1] at q1
  omega
/-- the answer -/
def y_gi (I : pI) (S : Nat) (law : Int32) (k : Nat) : yP := y_gv law (tS I) S k 0 0 0 0 999 y_g0 y_p0
def q_gi (I : pI) (S : Nat) (law n i : Int32) : Int32 := if i = -1 then (y_gi I S law n.toNatClampNeg).1 else (y_gi I S law n.toNatClampNeg).2 i.toNatClampNeg
theorem y_gi_ne (v : vN I N S) (k0 : 0 < k) (hk : k ≤ 5) (hN : k ≤ N) (hS : k ≤ S) : ¬ (y_gi I S law k).1 = -1 := y_gv_ne k0 hk hS (fun c s hc _ => tS_wi v (by have := v.1; omega) s) k 0 0 0 999 y_g0 y_p0 (by omega) y_ok_0 (Or.inl rfl)

set_option maxHeartbeats 400000 in
theorem lp_cgi (d : Nat) (hb : bR I N S) (hk : k ≤ 5) (hkN : k ≤ N) {zx : Int32} {c : Nat} (hc : c < k) {Q : Option Value → mm_M → Prop} (hcont : ∀ v5 J, sc I J → tbl I 68 S c S J → gP mm_cs0 (d + 7) 8 false (some .int) cX8_given 118 [some (.ref 0), some (.int law), some (.int (nI k)), some (.int zx), some (.int (nI c)), v5] [] (mm_sh, mm_R, J, L) Q) : ∀ (n i : Nat) (J : pI), i + n = S → sc I J → tbl I 68 S c i J → gP mm_cs0 (d + 7) 8 false (some .int) cX8_given 81 [some (.ref 0), some (.int law), some (.int (nI k)), some (.int zx), some (.int (nI c)), some (.int (nI i))] [] (mm_sh, mm_R, J, L) Q := by
  intro n
  induction n with
  | zero =>
    intro i J hi hsJ htb
    obtain rfl : i = S := by omega
    have hN8 := hb.n.1
    have hS8 := hb.n.2.1
    have zq0 : J 1 3 = nI i := hb.c13 hsJ
    have hc1 : nI i ≤ nI i := Int32.le_refl _
    refine gp_iload dX8_given_81 rfl ?_
    refine gp_aload_n dX8_given_83 rfl ?_
    refine gp_gr dX8_given_84 mf_8_10 rfl (by first | rfl | assumption | (simp only [*]; done)) (by first | rfl | assumption | (simp only [*]; done)) ?_
    refine gp_giv dX8_given_87 mf_8_161 (by decide) (by first | rfl | assumption | (simp only [*]; done)) (by first | exact zq0 | exact rfl) ?_
    refine gp_icc (t := 118) dX8_given_90 (by decide) c2_ge (fun h1 => ?_) (fun h1 => ?_)
    · have h1' := Int32.not_lt.mpr h1
      exact hcont _ J hsJ htb
    · exact absurd hc1 h1
  | succ n ih =>
    intro i J hi hsJ htb
    have hN8 := hb.n.1
    have hS8 := hb.n.2.1
    have zq0 : J 1 3 = nI S := hb.c13 hsJ
    have hc1 : ¬ nI S ≤ nI i := nI_ge (by omega) (by omega)
    have zq8 := nI_8 (i := c) (s := i) (by omega) (by omega)
    refine gp_iload dX8_given_81 rfl ?_
    refine gp_aload_n dX8_given_83 rfl ?_
    refine gp_gr dX8_given_84 mf_8_10 rfl (by first | rfl | assumption | (simp only [*]; done)) (by first | rfl | assumption | (simp only [*]; done)) ?_
    refine gp_giv dX8_given_87 mf_8_161 (by decide) (by first | rfl | assumption | (simp only [*]; done)) (by first | exact zq0 | exact rfl) ?_
    refine gp_icc (t := 118) dX8_given_90 (by decide) c2_ge (fun h1 => ?_) (fun h1 => ?_)
    · exact absurd h1 hc1
    · have h1' := Int32.not_le.mp h1
      refine gp_aload_n dX8_given_93 rfl ?_
      refine gp_gr dX8_given_94 mf_8_49 rfl (by first | rfl | assumption | (simp only [*]; done)) (by first | rfl | assumption | (simp only [*]; done)) ?_
      refine gp_iload dX8_given_97 rfl ?_
      refine gp_iload dX8_given_99 rfl ?_
      refine gp_aload_n dX8_given_101 rfl ?_
      refine gp_iload dX8_given_102 rfl ?_
      refine gp_iload dX8_given_104 rfl ?_
      refine gp_callX (kind := 1) (args := [.ref _, .int _, .int _]) (rest := _) dX8_given_106 (Or.inr (Or.inl ⟨rfl, rfl⟩)) mk_8_294 (by decide) me_111 rfl rfl rfl rfl rfl (mm_rc_of (by first | rfl | assumption | (simp only [*]; done))) (cz_timeIn _ hb hsJ (by omega) (by omega)) ?_
      intro K1 zqk1
      refine gp_callX (kind := 1) (args := [.ref _, .int _, .int _, .int _]) (rest := _) dX8_given_109 (Or.inr (Or.inl ⟨rfl, rfl⟩)) mk_8_297 (by decide) me_11 rfl rfl rfl rfl rfl (mm_rc_of (by first | rfl | assumption | (simp only [*]; done))) (ct_tell _ (by omega) (by omega) _) ?_
      intro K2 zqk2
      rw [zqk2]
      refine gp_iinc (v := (1)) (ls' := [some (.ref _), some (.int _), some (.int _), some (.int _), some (.int _), some (.int _)]) dX8_given_112 rfl (by decide) rfl ?_
      refine gp_goto (t := 81) dX8_given_115 (by decide) ?_
      (rw [nI_1]; exact ih (i + 1) _ (by omega) (zqk1.1.u rfl) (htb.nx hS8 (by omega) (zqk1.2 68 (by decide) (by decide))))

set_option maxHeartbeats 400000 in
theorem lp_cgo (d : Nat) (hb : bR I N S) (hk : k ≤ 5) (hkN : k ≤ N) {zx : Int32} {Q : Option Value → mm_M → Prop} (hcont : ∀ v5 J, sc I J → tbl I 68 S k 0 J → gP mm_cs0 (d + 7) 8 false (some .int) cX8_given 124 [some (.ref 0), some (.int law), some (.int (nI k)), some (.int zx), some (.int (nI k)), v5] [] (mm_sh, mm_R, J, L) Q) : ∀ (n i : Nat) (v5 : Option Value) (J : pI), i + n = k → sc I J → tbl I 68 S i 0 J → gP mm_cs0 (d + 7) 8 false (some .int) cX8_given 72 [some (.ref 0), some (.int law), some (.int (nI k)), some (.int zx), some (.int (nI i)), v5] [] (mm_sh, mm_R, J, L) Q := by
  intro n
  induction n with
  | zero =>
    intro i v5 J hi hsJ htb
    obtain rfl : i = k := by omega
    have hN8 := hb.n.1
    have hS8 := hb.n.2.1
    have hc1 : nI i ≤ nI i := Int32.le_refl _
    refine gp_iload dX8_given_72 rfl ?_
    refine gp_iload_n dX8_given_74 rfl ?_
    refine gp_icc (t := 124) dX8_given_75 (by decide) c2_ge (fun h1 => ?_) (fun h1 => ?_)
    · have h1' := Int32.not_lt.mpr h1
      exact hcont _ J hsJ htb
    · exact absurd hc1 h1
  | succ n ih =>
    intro i v5 J hi hsJ htb
    have hN8 := hb.n.1
    have hS8 := hb.n.2.1
    have hc1 : ¬ nI k ≤ nI i := nI_ge (by omega) (by omega)
    refine gp_iload dX8_given_72 rfl ?_
    refine gp_iload_n dX8_given_74 rfl ?_
    refine gp_icc (t := 124) dX8_given_75 (by decide) c2_ge (fun h1 => ?_) (fun h1 => ?_)
    · exact absurd h1 hc1
    · have h1' := Int32.not_le.mp h1
      refine gp_pu (st' := .int (0) :: _) dX8_given_78 rfl ?_
      refine gp_istore (ls' := [some (.ref _), some (.int _), some (.int _), some (.int _), some (.int _), some (.int _)]) dX8_given_79 rfl (Nat.le_of_ble_eq_true rfl) ?_
      (refine lp_cgi (c := i) d hb hk hkN (by omega) (fun v6 J2 hs2 ht2 => ?_) S 0 J (by omega) hsJ htb
       refine gp_iinc (v := (1)) (ls' := [some (.ref _), some (.int _), some (.int _), some (.int _), some (.int _), _]) dX8_given_118 rfl (by decide) rfl ?_
       refine gp_goto (t := 72) dX8_given_121 (by decide) ?_
       (rw [nI_1]; exact ih (i + 1) _ J2 (by omega) hs2 ht2.row))

set_option maxHeartbeats 400000 in
theorem lp_mgi (d : Nat) (v : vN I N S) (hk : k ≤ 5) (hkN : k ≤ N) {zx : Int32} {c : Nat} (hc : c < k) {Q : Option Value → mm_M → Prop} (hcont : ∀ v5 J, mR I C J → tbl I 129 S c S J → gP mm_cs0 (d + 8) 9 false (some .int) cX9_given 107 [some (.ref 108), some (.int law), some (.int (nI k)), some (.int zx), some (.int (nI c)), v5] [] (mm_sh, mm_R, J, L) Q) : ∀ (n i : Nat) (J : pI), i + n = S → mR I C J → tbl I 129 S c i J → gP mm_cs0 (d + 8) 9 false (some .int) cX9_given 71 [some (.ref 108), some (.int law), some (.int (nI k)), some (.int zx), some (.int (nI c)), some (.int (nI i))] [] (mm_sh, mm_R, J, L) Q := by
  intro n
  induction n with
  | zero =>
    intro i J hi hsJ htb
    obtain rfl : i = S := by omega
    have hN8 := v.1
    have hS8 := v.2.1
    have zq0 : J 108 1 = nI i := (hsJ.r (by decide)).trans v.2.2.2.1
    have hc1 : nI i ≤ nI i := Int32.le_refl _
    refine gp_iload dX9_given_71 rfl ?_
    refine gp_aload_n dX9_given_73 rfl ?_
    refine gp_giv dX9_given_74 mf_9_120 (by decide) (by first | rfl | assumption | (simp only [*]; done)) (by first | exact zq0 | exact rfl) ?_
    refine gp_icc (t := 107) dX9_given_77 (by decide) c2_ge (fun h1 => ?_) (fun h1 => ?_)
    · have h1' := Int32.not_lt.mpr h1
      exact hcont _ J hsJ htb
    · exact absurd hc1 h1
  | succ n ih =>
    intro i J hi hsJ htb
    have hN8 := v.1
    have hS8 := v.2.1
    have zq0 : J 108 1 = nI S := (hsJ.r (by decide)).trans v.2.2.2.1
    have hc1 : ¬ nI S ≤ nI i := nI_ge (by omega) (by omega)
    have zq8 := nI_8 (i := c) (s := i) (by omega) (by omega)
    refine gp_iload dX9_given_71 rfl ?_
    refine gp_aload_n dX9_given_73 rfl ?_
    refine gp_giv dX9_given_74 mf_9_120 (by decide) (by first | rfl | assumption | (simp only [*]; done)) (by first | exact zq0 | exact rfl) ?_
    refine gp_icc (t := 107) dX9_given_77 (by decide) c2_ge (fun h1 => ?_) (fun h1 => ?_)
    · exact absurd h1 hc1
    · have h1' := Int32.not_le.mp h1
      refine gp_aload_n dX9_given_80 rfl ?_
      refine gp_gr dX9_given_81 mf_9_90 rfl (by first | rfl | assumption | (simp only [*]; done)) (by first | rfl | assumption | (simp only [*]; done)) ?_
      refine gp_pu (st' := .int (8) :: _) dX9_given_84 rfl ?_
      refine gp_iload dX9_given_86 rfl ?_
      refine gp_pu (st' := .int _ :: _) dX9_given_88 rfl ?_
      refine gp_iload dX9_given_89 rfl ?_
      refine gp_pu (st' := .int _ :: _) dX9_given_91 rfl ?_
      refine gp_aload_n dX9_given_92 rfl ?_
      refine gp_iload dX9_given_93 rfl ?_
      refine gp_iload dX9_given_95 rfl ?_
      refine gp_callX (kind := 1) (args := [.ref _, .int _, .int _]) (rest := _) dX9_given_97 (Or.inr (Or.inl ⟨rfl, rfl⟩)) mk_9_302 (by decide) me_181 rfl rfl rfl rfl rfl (mm_rc_of (by first | rfl | assumption | (simp only [*]; done))) (mz_inWith _ v hsJ (by omega) (by omega)) ?_
      intro K1 zqk1
      refine gp_ias dX9_given_100 (by first | rfl | assumption | (simp only [*]; done)) (by rw [zq8.1]; exact zq8.2.2.1) ?_
      refine gp_iinc (v := (1)) (ls' := [some (.ref _), some (.int _), some (.int _), some (.int _), some (.int _), some (.int _)]) dX9_given_101 rfl (by decide) rfl ?_
      refine gp_goto (t := 71) dX9_given_104 (by decide) ?_
      (rw [nI_1, zq8.1, zq8.2.2.2]; exact ih (i + 1) _ (by omega) (zqk1.1.u (by decide) rfl) (htb.nx hS8 (by omega) (zqk1.2 129 (by decide))))

set_option maxHeartbeats 400000 in
theorem lp_mgo (d : Nat) (v : vN I N S) (hk : k ≤ 5) (hkN : k ≤ N) {zx : Int32} {Q : Option Value → mm_M → Prop} (hcont : ∀ v5 J, mR I C J → tbl I 129 S k 0 J → gP mm_cs0 (d + 8) 9 false (some .int) cX9_given 113 [some (.ref 108), some (.int law), some (.int (nI k)), some (.int zx), some (.int (nI k)), v5] [] (mm_sh, mm_R, J, L) Q) : ∀ (n i : Nat) (v5 : Option Value) (J : pI), i + n = k → mR I C J → tbl I 129 S i 0 J → gP mm_cs0 (d + 8) 9 false (some .int) cX9_given 62 [some (.ref 108), some (.int law), some (.int (nI k)), some (.int zx), some (.int (nI i)), v5] [] (mm_sh, mm_R, J, L) Q := by
  intro n
  induction n with
  | zero =>
    intro i v5 J hi hsJ htb
    obtain rfl : i = k := by omega
    have hN8 := v.1
    have hS8 := v.2.1
    have hc1 : nI i ≤ nI i := Int32.le_refl _
    refine gp_iload dX9_given_62 rfl ?_
    refine gp_iload_n dX9_given_64 rfl ?_
    refine gp_icc (t := 113) dX9_given_65 (by decide) c2_ge (fun h1 => ?_) (fun h1 => ?_)
    · have h1' := Int32.not_lt.mpr h1
      exact hcont _ J hsJ htb
    · exact absurd hc1 h1
  | succ n ih =>
    intro i v5 J hi hsJ htb
    have hN8 := v.1
    have hS8 := v.2.1
    have hc1 : ¬ nI k ≤ nI i := nI_ge (by omega) (by omega)
    refine gp_iload dX9_given_62 rfl ?_
    refine gp_iload_n dX9_given_64 rfl ?_
    refine gp_icc (t := 113) dX9_given_65 (by decide) c2_ge (fun h1 => ?_) (fun h1 => ?_)
    · exact absurd h1 hc1
    · have h1' := Int32.not_le.mp h1
      refine gp_pu (st' := .int (0) :: _) dX9_given_68 rfl ?_
      refine gp_istore (ls' := [some (.ref _), some (.int _), some (.int _), some (.int _), some (.int _), some (.int _)]) dX9_given_69 rfl (Nat.le_of_ble_eq_true rfl) ?_
      (refine lp_mgi (c := i) d v hk hkN (by omega) (fun v6 J2 hs2 ht2 => ?_) S 0 J (by omega) hsJ htb
       refine gp_iinc (v := (1)) (ls' := [some (.ref _), some (.int _), some (.int _), some (.int _), some (.int _), _]) dX9_given_107 rfl (by decide) rfl ?_
       refine gp_goto (t := 62) dX9_given_110 (by decide) ?_
       (rw [nI_1]; exact ih (i + 1) _ J2 (by omega) hs2 ht2.row))
end P98t
