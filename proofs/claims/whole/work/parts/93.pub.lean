/-! PUBLIC METHODS: heats, the reference -/
section P93
variable {I C J : pI} {L : pL} {N S : Nat}

theorem mz_inOf (d : Nat) (v : vN I N S) (hs : mR I C J) {c : Nat} (hc : c < N) : cP (d + 7) 180 [.ref 108, .int (nI c)] (mm_sh, mm_R, J, L) (pX (some (.int (tC I c))) L (fun K => mR I C K ∧ ∀ k, k ≠ 108 → K k = J k)) := by
  have hc' := ch_n v hc
  obtain ⟨a1, a2, a3, a4, a5, a6, a7, a8, a9⟩ := puts_q hs (nI c)
  refine cP.of_x (ok_X9_inOf d J L (nI c) (v.in8 hc') (v.sin hs hc') (v.kd hs hc')) ?_ ⟨hs.inM fun j hj => a9 j (by omega), fun k hk => sr_other _ _ hk⟩
  rw [m_in_q a1 (by rw [a4]; exact a7) a8, a2, a3, a4, a5, a6, nI_clamp (by have := v.1; omega)]
  rfl

set_option maxHeartbeats 400000 in
theorem lp_mhi (d : Nat) (v : vN I N S) {k a m e : Nat} {x kp w : Int32} {O : Nat → Int32} {f : Nat → Nat} (hf : ∀ j, j < m → f j < N) (hO0 : ∀ j, a ≤ j → j < m → O j = nI (f j)) (hm : m ≤ 8) (hk4 : k ≤ 4) (he1 : a + e + 1 ≤ m) (he2 : e + 1 ≤ k) (he3 : a + e + 1 = m ∨ e + 1 = k) {Q : Option Value → mm_M → Prop} (hcont : ∀ v8 J, mR I C J → J 132 = O → gP mm_cs0 (d + 7) 9 false (some .int) cX9_heats 157 [some (.ref 108), some (.int (nI k)), some (.int w), some (.int (nI m)), some (.int x), some (.int kp), some (.int (nI a)), some (.int (nI (y_gw (tC I) f a e))), v8] [] (mm_sh, mm_R, J, L) Q) : ∀ (n i : Nat) (J : pI), i + n = e → mR I C J → J 132 = O → gP mm_cs0 (d + 7) 9 false (some .int) cX9_heats 107 [some (.ref 108), some (.int (nI k)), some (.int w), some (.int (nI m)), some (.int x), some (.int kp), some (.int (nI a)), some (.int (nI (y_gw (tC I) f a i))), some (.int (nI (a + i + 1)))] [] (mm_sh, mm_R, J, L) Q := by
  intro n
  induction n with
  | zero =>
    intro i J hi hsJ hO
    obtain rfl : i = e := by omega
    have hc0 := he1
    refine gp_iload dX9_heats_107 rfl ?_
    refine gp_iload_n dX9_heats_109 rfl ?_
    refine gp_icc (t := 157) dX9_heats_110 (by decide) c2_ge (fun h1 => ?_) (fun h1 => ?_)
    · have h1' := Int32.not_lt.mpr h1
      exact hcont _ J hsJ hO
    · have h1' := Int32.not_le.mp h1
      refine gp_iload dX9_heats_113 rfl ?_
      refine gp_iload dX9_heats_115 rfl ?_
      refine gp_iload_n dX9_heats_117 rfl ?_
      refine gp_pu (st' := .int _ :: _) dX9_heats_118 rfl ?_
      refine gp_icc (t := 157) dX9_heats_119 (by decide) c2_ge (fun h2 => ?_) (fun h2 => ?_)
      · have h2' := Int32.not_lt.mpr h2
        exact hcont _ J hsJ hO
      · (rcases he3 with z | z; (exact absurd (by rw [z]; exact Int32.le_refl _) h1); (exact absurd (by rw [nI_add, ← z]; exact Int32.le_refl _) h2))
  | succ n ih =>
    intro i J hi hsJ hO
    have hc1 : ¬ nI m ≤ nI (a + i + 1) := nI_ge (by omega) (by omega)
    have hc2 : ¬ nI (a + k) ≤ nI (a + i + 1) := nI_ge (by omega) (by omega)
    have hfo : f (a + i + 1) < N := hf _ (by omega)
    have hfb : y_gw (tC I) f a i < N := y_gw_in _ _ (fun j _ h2 => hf j (by omega))
    have z1 : J 132 (nI (a + i + 1)).toNatClampNeg = nI (f (a + i + 1)) := by rw [nI_clamp (by omega), hO]; exact hO0 _ (by omega) (by omega)
    have zqi : mm_in (nI (a + i + 1)) 8 = true := mm_in_8.mpr ⟨nI_pos' (by omega), nI_lt (b := 8) (by omega) (by omega)⟩
    refine gp_iload dX9_heats_107 rfl ?_
    refine gp_iload_n dX9_heats_109 rfl ?_
    refine gp_icc (t := 157) dX9_heats_110 (by decide) c2_ge (fun h1 => ?_) (fun h1 => ?_)
    · exact absurd h1 hc1
    · have h1' := Int32.not_le.mp h1
      refine gp_iload dX9_heats_113 rfl ?_
      refine gp_iload dX9_heats_115 rfl ?_
      refine gp_iload_n dX9_heats_117 rfl ?_
      refine gp_pu (st' := .int _ :: _) dX9_heats_118 rfl ?_
      refine gp_icc (t := 157) dX9_heats_119 (by decide) c2_ge (fun h2 => ?_) (fun h2 => ?_)
      · exact absurd (by rw [nI_add] at h2; exact h2) hc2
      · have h2' := Int32.not_le.mp h2
        refine gp_aload_n dX9_heats_122 rfl ?_
        refine gp_aload_n dX9_heats_123 rfl ?_
        refine gp_gr dX9_heats_124 mf_9_99 rfl (by first | rfl | assumption | (simp only [*]; done)) (by first | rfl | assumption | (simp only [*]; done)) ?_
        refine gp_iload dX9_heats_127 rfl ?_
        refine gp_ialv dX9_heats_129 rfl (by first | rfl | assumption | (simp only [*]; done)) zqi z1 ?_
        refine gp_callX (kind := 1) (args := [.ref _, .int _]) (rest := _) dX9_heats_130 (Or.inr (Or.inl ⟨rfl, rfl⟩)) mk_9_293 (by decide) me_180 rfl rfl rfl rfl rfl (mm_rc_of (by first | rfl | assumption | (simp only [*]; done))) (mz_inOf _ v hsJ hfo) ?_
        intro K1 hK1
        refine gp_aload_n dX9_heats_133 rfl ?_
        refine gp_iload dX9_heats_134 rfl ?_
        refine gp_callX (kind := 1) (args := [.ref _, .int _]) (rest := _) dX9_heats_136 (Or.inr (Or.inl ⟨rfl, rfl⟩)) mk_9_293 (by decide) me_180 rfl rfl rfl rfl rfl (mm_rc_of (by first | rfl | assumption | (simp only [*]; done))) (mz_inOf _ v hK1.1 hfb) ?_
        intro K2 hK2
        refine gp_icc (t := 151) dX9_heats_139 (by decide) c2_ge (fun h3 => ?_) (fun h3 => ?_)
        · have h3' := Int32.not_lt.mpr h3
          refine gp_iinc (v := (1)) (ls' := [some (.ref _), some (.int _), some (.int _), some (.int _), some (.int _), some (.int _), some (.int _), some (.int _), some (.int _)]) dX9_heats_151 rfl (by decide) rfl ?_
          refine gp_goto (t := 107) dX9_heats_154 (by decide) ?_
          (rw [nI_1]
           have ih' := ih (i + 1) K2 (by omega) hK2.1 (by rw [hK2.2 132 (by decide), hK1.2 132 (by decide)]; exact hO)
           rw [show y_gw (tC I) f a (i + 1) = y_gw (tC I) f a i from if_neg (Int32.not_lt.mpr h3)] at ih'
           exact ih')
        · have h3' := Int32.not_le.mp h3
          refine gp_aload_n dX9_heats_142 rfl ?_
          refine gp_gr dX9_heats_143 mf_9_99 rfl (by first | rfl | assumption | (simp only [*]; done)) (by first | rfl | assumption | (simp only [*]; done)) ?_
          refine gp_iload dX9_heats_146 rfl ?_
          refine gp_ialv dX9_heats_148 rfl (by first | rfl | assumption | (simp only [*]; done)) zqi ((congrFun ((hK2.2 132 (by decide)).trans (hK1.2 132 (by decide))) _).trans z1) ?_
          refine gp_istore (ls' := [some (.ref _), some (.int _), some (.int _), some (.int _), some (.int _), some (.int _), some (.int _), some (.int _), some (.int _)]) dX9_heats_149 rfl (Nat.le_of_ble_eq_true rfl) ?_
          refine gp_iinc (v := (1)) (ls' := [some (.ref _), some (.int _), some (.int _), some (.int _), some (.int _), some (.int _), some (.int _), some (.int _), some (.int _)]) dX9_heats_151 rfl (by decide) rfl ?_
          refine gp_goto (t := 107) dX9_heats_154 (by decide) ?_
          (rw [nI_1]
           have ih' := ih (i + 1) K2 (by omega) hK2.1 (by rw [hK2.2 132 (by decide), hK1.2 132 (by decide)]; exact hO)
           rw [show y_gw (tC I) f a (i + 1) = f (a + i + 1) from if_pos (Int32.not_le.mp h3)] at ih'
           exact ih')

theorem dn_mheats (d : Nat) {k w m x kp g b : Int32} {v8 : Option Value} (zqi : mm_in kp 8 = true) {Q : Option Value → mm_M → Prop} (hk : gP mm_cs0 (d + 7) 9 false (some .int) cX9_heats 86 [some (.ref 108), some (.int k), some (.int w), some (.int m), some (.int (x + 1)), some (.int (kp + 1)), some (.int (g + k)), some (.int b), v8] [] (mm_sh, mm_R, mm_u J 132 kp.toNatClampNeg b, L) Q) : gP mm_cs0 (d + 7) 9 false (some .int) cX9_heats 157 [some (.ref 108), some (.int k), some (.int w), some (.int m), some (.int x), some (.int kp), some (.int g), some (.int b), v8] [] (mm_sh, mm_R, J, L) Q := by
  refine gp_aload_n dX9_heats_157 rfl ?_
  refine gp_gr dX9_heats_158 mf_9_99 rfl (by first | rfl | assumption | (simp only [*]; done)) (by first | rfl | assumption | (simp only [*]; done)) ?_
  refine gp_iload dX9_heats_161 rfl ?_
  refine gp_iload dX9_heats_163 rfl ?_
  refine gp_ias dX9_heats_165 (by first | rfl | assumption | (simp only [*]; done)) zqi ?_
  refine gp_iinc (v := (1)) (ls' := [some (.ref _), some (.int _), some (.int _), some (.int _), some (.int _), some (.int _), some (.int _), some (.int _), _]) dX9_heats_166 rfl (by decide) rfl ?_
  refine gp_iinc (v := (1)) (ls' := [some (.ref _), some (.int _), some (.int _), some (.int _), some (.int _), some (.int _), some (.int _), some (.int _), _]) dX9_heats_169 rfl (by decide) rfl ?_
  refine gp_iload dX9_heats_172 rfl ?_
  refine gp_iload_n dX9_heats_174 rfl ?_
  refine gp_pu (st' := .int _ :: _) dX9_heats_175 rfl ?_
  refine gp_istore (ls' := [some (.ref _), some (.int _), some (.int _), some (.int _), some (.int _), some (.int _), some (.int _), some (.int _), _]) dX9_heats_176 rfl (Nat.le_of_ble_eq_true rfl) ?_
  refine gp_goto (t := 86) dX9_heats_178 (by decide) ?_
  exact hk

theorem y_nh_ge {m k : Nat} (hk : 2 ≤ k) (h : 0 < m) : m ≤ y_nh m k * k := by
  have h1 := Nat.div_add_mod (m - 1) k
  have h2 := Nat.mod_lt (m - 1) (show 0 < k by omega)
  unfold y_nh
  rw [Nat.succ_mul, Nat.mul_comm]
  omega
theorem y_nh_lt {m k : Nat} (hm : m ≤ 8) (hk : k ≤ 4) (h : 0 < m) : y_nh m k * k ≤ 11 := by
  have h1 := Nat.div_mul_le_self (m - 1) k
  unfold y_nh
  rw [Nat.succ_mul]
  omega
theorem y_nh_e {m k i : Nat} (hk : 2 ≤ k) (h : 0 < m) (hi : i < y_nh m k) : i * k + (if i < (m - 1) / k then k - 1 else m - 1 - i * k) + 1 ≤ m ∧ (if i < (m - 1) / k then k - 1 else m - 1 - i * k) + 1 ≤ k ∧ (i * k + (if i < (m - 1) / k then k - 1 else m - 1 - i * k) + 1 = m ∨ (if i < (m - 1) / k then k - 1 else m - 1 - i * k) + 1 = k) := by
  have h1 := Nat.div_mul_le_self (m - 1) k
  have h2 := y_nh_ge hk h
  unfold y_nh at hi h2
  by_cases z : i < (m - 1) / k
  · rw [if_pos z]
    have : (i + 1) * k ≤ (m - 1) / k * k := Nat.mul_le_mul_right k (by omega)
    rw [Nat.succ_mul] at this
    omega
  · rw [if_neg z]
    have e : i = (m - 1) / k := by omega
    rw [Nat.succ_mul, ← e] at h2
    rw [← e] at h1
    omega
theorem y_ng_e {T : Nat → Int32} {g : Nat → Nat} {m k i : Nat} (hi : i < y_nh m k) : y_ng T g m k i = y_gw T g (i * k) (if i < (m - 1) / k then k - 1 else m - 1 - i * k) := by
  unfold y_nh at hi
  unfold y_ng
  by_cases z : i < (m - 1) / k
  · rw [if_pos z, if_pos z]
  · rw [if_neg z, if_neg z, if_pos (by omega)]

set_option maxHeartbeats 400000 in
theorem lp_mhg (d : Nat) (v : vN I N S) {k m x : Nat} {w : Int32} {f : Nat → Nat} (hf : ∀ j, j < m → f j < N) (hm : m ≤ 8) (h0 : 0 < m) (hk2 : 2 ≤ k) (hk4 : k ≤ 4) {Q : Option Value → mm_M → Prop} (hcont : ∀ v5 v6 v7 v8 J, mR I C J → (∀ j, j < y_nh m k → J 132 j = nI (y_ng (tC I) f m k j)) → gP mm_cs0 (d + 7) 9 false (some .int) cX9_heats 75 [some (.ref 108), some (.int (nI k)), some (.int w), some (.int (nI (y_nh m k))), some (.int (nI (x + y_nh m k))), v5, v6, v7, v8] [] (mm_sh, mm_R, J, L) Q) : ∀ (n i : Nat) (v7 v8 : Option Value) (J : pI), i + n = y_nh m k → mR I C J → (∀ j, j < m → J 132 j = nI (if j < i then y_ng (tC I) f m k j else f j)) → gP mm_cs0 (d + 7) 9 false (some .int) cX9_heats 86 [some (.ref 108), some (.int (nI k)), some (.int w), some (.int (nI m)), some (.int (nI (x + i))), some (.int (nI i)), some (.int (nI (i * k))), v7, v8] [] (mm_sh, mm_R, J, L) Q := by
  intro n
  induction n with
  | zero =>
    intro i v7 v8 J hi hsJ hO
    obtain rfl : i = y_nh m k := by omega
    obtain ⟨zq1, zq2, zq3, zq4⟩ := y_ng_in (T := tC I) hk2 hm h0 hf
    have hc1 : nI m ≤ nI (y_nh m k * k) := nI_le (y_nh_ge hk2 h0) (by have := y_nh_lt hm hk4 h0; omega)
    refine gp_iload dX9_heats_86 rfl ?_
    refine gp_iload_n dX9_heats_88 rfl ?_
    refine gp_icc (t := 181) dX9_heats_89 (by decide) c2_ge (fun h1 => ?_) (fun h1 => ?_)
    · have h1' := Int32.not_lt.mpr h1
      refine gp_iload dX9_heats_181 rfl ?_
      refine gp_istore_n (ls' := [some (.ref _), some (.int _), some (.int _), some (.int _), some (.int _), some (.int _), some (.int _), _, _]) dX9_heats_183 rfl (Nat.le_of_ble_eq_true rfl) ?_
      refine gp_goto (t := 75) dX9_heats_184 (by decide) ?_
      exact hcont _ _ _ _ J hsJ (fun j hj => by rw [hO j (by omega), if_pos hj])
    · exact absurd hc1 h1
  | succ n ih =>
    intro i v7 v8 J hi hsJ hO
    obtain ⟨zq1, zq2, zq3, zq4⟩ := y_ng_in (T := tC I) hk2 hm h0 hf
    have hE := y_nh_e (i := i) hk2 h0 (by omega)
    have hE2 := y_ng_e (T := tC I) (g := f) (i := i) (m := m) (k := k) (by omega)
    have zqm : i * k < m := by omega
    have zqk : i ≤ i * k := Nat.le_mul_of_pos_right i (by omega)
    have zqe : (i + 1) * k = i * k + k := Nat.succ_mul i k
    have hc1 : ¬ nI m ≤ nI (i * k) := nI_ge zqm (by omega)
    have z1 : J 132 (nI (i * k)).toNatClampNeg = nI (f (i * k)) := by rw [nI_clamp (by omega), hO _ zqm, if_neg (by omega)]
    have zqi : mm_in (nI (i * k)) 8 = true := mm_in_8.mpr ⟨nI_pos' (by omega), nI_lt (b := 8) (by omega) (by omega)⟩
    have zqi2 : mm_in (nI i) 8 = true := mm_in_8.mpr ⟨nI_pos' (by omega), nI_lt (b := 8) (by omega) (by omega)⟩
    refine gp_iload dX9_heats_86 rfl ?_
    refine gp_iload_n dX9_heats_88 rfl ?_
    refine gp_icc (t := 181) dX9_heats_89 (by decide) c2_ge (fun h1 => ?_) (fun h1 => ?_)
    · exact absurd h1 hc1
    · have h1' := Int32.not_le.mp h1
      refine gp_aload_n dX9_heats_92 rfl ?_
      refine gp_gr dX9_heats_93 mf_9_99 rfl (by first | rfl | assumption | (simp only [*]; done)) (by first | rfl | assumption | (simp only [*]; done)) ?_
      refine gp_iload dX9_heats_96 rfl ?_
      refine gp_ialv dX9_heats_98 rfl (by first | rfl | assumption | (simp only [*]; done)) zqi z1 ?_
      refine gp_istore (ls' := [some (.ref _), some (.int _), some (.int _), some (.int _), some (.int _), some (.int _), some (.int _), some (.int _), _]) dX9_heats_99 rfl (Nat.le_of_ble_eq_true rfl) ?_
      refine gp_iload dX9_heats_101 rfl ?_
      refine gp_pu (st' := .int (1) :: _) dX9_heats_103 rfl ?_
      refine gp_pu (st' := .int _ :: _) dX9_heats_104 rfl ?_
      refine gp_istore (ls' := [some (.ref _), some (.int _), some (.int _), some (.int _), some (.int _), some (.int _), some (.int _), some (.int _), some (.int _)]) dX9_heats_105 rfl (Nat.le_of_ble_eq_true rfl) ?_
      (rw [nI_1]
       refine lp_mhi d v (L := L) (k := k) (a := i * k) (m := m) (e := if i < (m - 1) / k then k - 1 else m - 1 - i * k) (O := J 132) (f := f) hf (fun j h1 h2 => by rw [hO j h2, if_neg (show ¬ j < i by omega)]) hm hk4 hE.1 hE.2.1 hE.2.2 (fun v8 J' hs' hO' => ?_) _ 0 J (Nat.zero_add _) hsJ rfl
       refine dn_mheats d zqi2 ?_
       rw [nI_1, nI_1, nI_add, ← zqe, ← hE2, nI_clamp (n := i) (by omega)]
       refine ih (i + 1) _ _ _ (by omega) (hs'.u (by decide) rfl) (fun j hj => ?_)
       rw [mm_u_i, hO']
       by_cases y : j = i
       · rw [if_pos ⟨rfl, y⟩, if_pos (by omega), y]
       · rw [if_neg (fun z => y z.2), hO j hj]
         by_cases z : j < i
         · rw [if_pos z, if_pos (by omega)]
         · rw [if_neg z, if_neg (by omega)])

set_option maxHeartbeats 400000 in
theorem lp_mhr (d : Nat) (v : vN I N S) {k : Nat} (hk2 : 2 ≤ k) (hk4 : k ≤ 4) (w : Int32) : ∀ (n i : Nat) (m x : Nat) (g : Nat → Nat) (v5 v6 v7 v8 : Option Value) (J : pI), i + n = 8 → m ≤ n + 1 → m ≤ 8 → 0 < m → (∀ j, j < m → g j < N) → mR I C J → (∀ j, j < m → J 132 j = nI (g j)) → gP mm_cs0 (d + 7) 9 false (some .int) cX9_heats 75 [some (.ref 108), some (.int (nI k)), some (.int w), some (.int (nI m)), some (.int (nI x)), v5, v6, v7, v8] [] (mm_sh, mm_R, J, L) (pX (some (.int (q_hr w (y_ht (tC I) k n m g x)))) L (mR I C)) := by
  intro n
  induction n with
  | zero =>
    intro i m x g v5 v6 v7 v8 J hi hmn hm hm9 hg hsJ h74
    obtain rfl : i = 8 := by omega
    have z0 : J 132 (0 : Int32).toNatClampNeg = nI (g 0) := h74 0 hm9
    have hc1 : nI m ≤ 1 := nI_le1m hm (by omega)
    refine gp_iload_n dX9_heats_75 rfl ?_
    refine gp_pu (st' := .int (1) :: _) dX9_heats_76 rfl ?_
    refine gp_icc (t := 187) dX9_heats_77 (by decide) c2_le (fun h1 => ?_) (fun h1 => ?_)
    · have h1' := Int32.not_lt.mpr h1
      (try simp only [Classical.not_not] at h1)
      refine gp_iload_n dX9_heats_187 rfl ?_
      refine gp_ifc (t := 200) dX9_heats_188 (by decide) c1_ne (fun h2 => ?_) (fun h2 => ?_)
      · (try simp only [Classical.not_not] at h2)
        refine gp_iload dX9_heats_200 rfl ?_
        refine gp_iret dX9_heats_202 rfl ?_
        first | (refine pX.mk (congrArg some (congrArg Value.int ?zqa)) hsJ; (case zqa => (unfold q_hr y_ht; simp only [*, if_true, if_false, ite_self]; done))) | (refine pX.mk (congrArg some (congrArg Value.int ?zqa)) hsJ; (case zqa => (have zqm := nI_le1 hm hm9 (by assumption); unfold q_hr y_ht; rw [if_pos zqm]; simp only [*, if_true, if_false]; done)))
      · (try simp only [Classical.not_not] at h2)
        refine gp_aload_n dX9_heats_191 rfl ?_
        refine gp_gr dX9_heats_192 mf_9_99 rfl (by first | rfl | assumption | (simp only [*]; done)) (by first | rfl | assumption | (simp only [*]; done)) ?_
        refine gp_pu (st' := .int (0) :: _) dX9_heats_195 rfl ?_
        refine gp_ialv dX9_heats_196 rfl (by first | rfl | assumption | (simp only [*]; done)) (by first | rfl | assumption | (simp only [*]; done)) (by first | exact z0 | exact rfl) ?_
        refine gp_goto (t := 202) dX9_heats_197 (by decide) ?_
        refine gp_iret dX9_heats_202 rfl ?_
        first | (refine pX.mk (congrArg some (congrArg Value.int ?zqa)) hsJ; (case zqa => (unfold q_hr y_ht; simp only [*, if_true, if_false, ite_self]; done))) | (refine pX.mk (congrArg some (congrArg Value.int ?zqa)) hsJ; (case zqa => (have zqm := nI_le1 hm hm9 (by assumption); unfold q_hr y_ht; rw [if_pos zqm]; simp only [*, if_true, if_false]; done)))
    · exact absurd hc1 h1
  | succ n ih =>
    intro i m x g v5 v6 v7 v8 J hi hmn hm hm9 hg hsJ h74
    have z0 : J 132 (0 : Int32).toNatClampNeg = nI (g 0) := h74 0 hm9
    refine gp_iload_n dX9_heats_75 rfl ?_
    refine gp_pu (st' := .int (1) :: _) dX9_heats_76 rfl ?_
    refine gp_icc (t := 187) dX9_heats_77 (by decide) c2_le (fun h1 => ?_) (fun h1 => ?_)
    · have h1' := Int32.not_lt.mpr h1
      (try simp only [Classical.not_not] at h1)
      refine gp_iload_n dX9_heats_187 rfl ?_
      refine gp_ifc (t := 200) dX9_heats_188 (by decide) c1_ne (fun h2 => ?_) (fun h2 => ?_)
      · (try simp only [Classical.not_not] at h2)
        refine gp_iload dX9_heats_200 rfl ?_
        refine gp_iret dX9_heats_202 rfl ?_
        first | (refine pX.mk (congrArg some (congrArg Value.int ?zqa)) hsJ; (case zqa => (unfold q_hr y_ht; simp only [*, if_true, if_false, ite_self]; done))) | (refine pX.mk (congrArg some (congrArg Value.int ?zqa)) hsJ; (case zqa => (have zqm := nI_le1 hm hm9 (by assumption); unfold q_hr y_ht; rw [if_pos zqm]; simp only [*, if_true, if_false]; done)))
      · (try simp only [Classical.not_not] at h2)
        refine gp_aload_n dX9_heats_191 rfl ?_
        refine gp_gr dX9_heats_192 mf_9_99 rfl (by first | rfl | assumption | (simp only [*]; done)) (by first | rfl | assumption | (simp only [*]; done)) ?_
        refine gp_pu (st' := .int (0) :: _) dX9_heats_195 rfl ?_
        refine gp_ialv dX9_heats_196 rfl (by first | rfl | assumption | (simp only [*]; done)) (by first | rfl | assumption | (simp only [*]; done)) (by first | exact z0 | exact rfl) ?_
        refine gp_goto (t := 202) dX9_heats_197 (by decide) ?_
        refine gp_iret dX9_heats_202 rfl ?_
        first | (refine pX.mk (congrArg some (congrArg Value.int ?zqa)) hsJ; (case zqa => (unfold q_hr y_ht; simp only [*, if_true, if_false, ite_self]; done))) | (refine pX.mk (congrArg some (congrArg Value.int ?zqa)) hsJ; (case zqa => (have zqm := nI_le1 hm hm9 (by assumption); unfold q_hr y_ht; rw [if_pos zqm]; simp only [*, if_true, if_false]; done)))
    · have h1' := Int32.not_le.mp h1
      (try simp only [Classical.not_not] at h1)
      refine gp_pu (st' := .int (0) :: _) dX9_heats_80 rfl ?_
      refine gp_istore (ls' := [some (.ref _), some (.int _), some (.int _), some (.int _), some (.int _), some (.int _), _, _, _]) dX9_heats_81 rfl (Nat.le_of_ble_eq_true rfl) ?_
      refine gp_pu (st' := .int (0) :: _) dX9_heats_83 rfl ?_
      refine gp_istore (ls' := [some (.ref _), some (.int _), some (.int _), some (.int _), some (.int _), some (.int _), some (.int _), _, _]) dX9_heats_84 rfl (Nat.le_of_ble_eq_true rfl) ?_
      (have zqm : ¬ m ≤ 1 := fun z => h1 (nI_le1m hm z)
       obtain ⟨zq1, zq2, zq3, zq4⟩ := y_ng_in (T := tC I) hk2 hm hm9 hg
       have zqh := lp_mhg d v (L := L) (k := k) (m := m) (x := x) (w := w) (f := g) hg hm hm9 hk2 hk4 (Q := pX (some (.int (q_hr w (y_ht (tC I) k (n + 1) m g x)))) L (mR I C)) (fun v5 v6 v7 v8 J' hs' hO' => by
         have ih' := ih (i + 1) (y_nh m k) (x + y_nh m k) (y_ng (tC I) g m k) v5 v6 v7 v8 J' (by omega) (by omega) (by omega) zq3 (fun j hj => zq1 j (by omega)) hs' hO'
         rw [show y_ht (tC I) k (n + 1) m g x = y_ht (tC I) k n (y_nh m k) (y_ng (tC I) g m k) (x + y_nh m k) from if_neg zqm]
         exact ih') (y_nh m k) 0 v7 v8 J (Nat.zero_add _) hsJ (fun j hj => by rw [h74 j hj, if_neg (Nat.not_lt_zero j)])
       rw [Nat.zero_mul] at zqh
       exact zqh)

set_option maxHeartbeats 400000 in
theorem lp_mhz (d : Nat) (v : vN I N S) {k : Nat} (hk2 : 2 ≤ k) (hk4 : k ≤ 4) (h0 : 0 < N) (w : Int32) : ∀ (n i : Nat) (J : pI), i + n = N → mR I C J → (∀ j, j < i → J 132 j = nI j) → gP mm_cs0 (d + 7) 9 false (some .int) cX9_heats 51 [some (.ref 108), some (.int (nI k)), some (.int w), some (.int (nI N)), some (.int (nI 0)), some (.int (nI i)), none, none, none] [] (mm_sh, mm_R, J, L) (pX (some (.int (q_hr w (y_ht (tC I) k 8 N id 0)))) L (mR I C)) := by
  intro n
  induction n with
  | zero =>
    intro i J hi hsJ h74
    obtain rfl : i = N := by omega
    have hN8 := v.1
    have hc1 : nI i ≤ nI i := Int32.le_refl _
    refine gp_iload dX9_heats_51 rfl ?_
    refine gp_aload_n dX9_heats_53 rfl ?_
    refine gp_giv dX9_heats_54 mf_9_117 (by decide) (by first | rfl | assumption | (simp only [*]; done)) (by first | exact (hsJ.r (by decide)).trans v.2.2.1 | exact rfl) ?_
    refine gp_icc (t := 75) dX9_heats_57 (by decide) c2_ge (fun h1 => ?_) (fun h1 => ?_)
    · have h1' := Int32.not_lt.mpr h1
      exact lp_mhr d v hk2 hk4 w 8 0 i 0 id _ _ _ _ J (by omega) (by have := v.1; omega) v.1 h0 (fun j hj => hj) hsJ h74
    · exact absurd hc1 h1
  | succ n ih =>
    intro i J hi hsJ h74
    have hN8 := v.1
    have hc1 : ¬ nI N ≤ nI i := nI_ge (by omega) (by omega)
    have zqi : mm_in (nI i) 8 = true := v.in8 (ch_n v (show i < N by omega))
    refine gp_iload dX9_heats_51 rfl ?_
    refine gp_aload_n dX9_heats_53 rfl ?_
    refine gp_giv dX9_heats_54 mf_9_117 (by decide) (by first | rfl | assumption | (simp only [*]; done)) (by first | exact (hsJ.r (by decide)).trans v.2.2.1 | exact rfl) ?_
    refine gp_icc (t := 75) dX9_heats_57 (by decide) c2_ge (fun h1 => ?_) (fun h1 => ?_)
    · exact absurd h1 hc1
    · have h1' := Int32.not_le.mp h1
      refine gp_aload_n dX9_heats_60 rfl ?_
      refine gp_gr dX9_heats_61 mf_9_99 rfl (by first | rfl | assumption | (simp only [*]; done)) (by first | rfl | assumption | (simp only [*]; done)) ?_
      refine gp_iload dX9_heats_64 rfl ?_
      refine gp_iload dX9_heats_66 rfl ?_
      refine gp_ias dX9_heats_68 (by first | rfl | assumption | (simp only [*]; done)) zqi ?_
      refine gp_iinc (v := (1)) (ls' := [some (.ref _), some (.int _), some (.int _), some (.int _), some (.int _), some (.int _), none, none, none]) dX9_heats_69 rfl (by decide) rfl ?_
      refine gp_goto (t := 51) dX9_heats_72 (by decide) ?_
      (rw [nI_1]
       refine ih (i + 1) _ (by omega) (hsJ.u (by decide) rfl) (fun j hj => ?_)
       rw [nI_clamp (by omega), mm_u_i]
       by_cases y : j = i
       · rw [if_pos ⟨rfl, y⟩, y]
       · rw [if_neg (fun z => y z.2)]; exact h74 j (by omega))

set_option maxHeartbeats 400000 in
theorem ml_heats (d : Nat) (v : vN I N S) (hs : mR I C J) {k w : Int32} : cP (d + 8) 200 [.ref 108, .int k, .int w] (mm_sh, mm_R, J, L) (pX (some (.int (vq (w_ht N k w) (q_ht I N k w)))) L (mR (rM I (w_ht N k w)) C)) := by
  have m0 : J 108 0 = nI N := (hs.r (by decide)).trans v.2.2.1
  have m1 : J 108 1 = nI S := (hs.r (by decide)).trans v.2.2.2.1
  refine cP.of_gP (d := d + 7) me_200 ⟨Nat.le_of_ble_eq_true rfl, rfl⟩ ?_
  show gP mm_cs0 _ _ _ _ _ _ [some (.ref _), some (.int _), some (.int _), none, none, none, none, none, none] [] _ _
  refine gp_iload_n dX9_heats_0 rfl ?_
  refine gp_ifc (t := 16) dX9_heats_1 (by decide) c1_lt (fun h1 => ?_) (fun h1 => ?_)
  · have h1' := Int32.not_le.mpr h1
    (try simp only [nI_0f v.1, Classical.not_not, m0] at h1)
    refine gp_aload_n dX9_heats_16 rfl ?_
    refine gp_pu (st' := .int (-5) :: _) dX9_heats_17 rfl ?_
    refine gp_call (kind := 1) (args := [.ref _, .int _]) (rest := _) dX9_heats_19 (Or.inr (Or.inl ⟨rfl, rfl⟩)) mk_9_127 (by decide) me_127 rfl rfl rfl rfl rfl (mm_rc_of (by first | rfl | assumption | (simp only [*]; done))) (ok_X9_no _ _ _ _ (by decide)) rfl ?_
    refine gp_iret dX9_heats_22 rfl ?_
    first | (refine mNo ?zqa ?zqc hs; (case zqa => (first | ((simp [w_ht, *]; done)) | (exfalso; first | contradiction | (simp_all; done)))); (case zqc => (unfold isW; decide)))
  · have h1' := Int32.not_lt.mp h1
    (try simp only [nI_0f v.1, Classical.not_not, m0] at h1)
    refine gp_iload_n dX9_heats_4 rfl ?_
    refine gp_pu (st' := .int (1) :: _) dX9_heats_5 rfl ?_
    refine gp_icc (t := 16) dX9_heats_6 (by decide) c2_gt (fun h2 => ?_) (fun h2 => ?_)
    · have h2' := Int32.not_le.mpr h2
      (try simp only [nI_0f v.1, Classical.not_not, m0] at h2)
      refine gp_aload_n dX9_heats_16 rfl ?_
      refine gp_pu (st' := .int (-5) :: _) dX9_heats_17 rfl ?_
      refine gp_call (kind := 1) (args := [.ref _, .int _]) (rest := _) dX9_heats_19 (Or.inr (Or.inl ⟨rfl, rfl⟩)) mk_9_127 (by decide) me_127 rfl rfl rfl rfl rfl (mm_rc_of (by first | rfl | assumption | (simp only [*]; done))) (ok_X9_no _ _ _ _ (by decide)) rfl ?_
      refine gp_iret dX9_heats_22 rfl ?_
      first | (refine mNo ?zqa ?zqc hs; (case zqa => (first | ((simp [w_ht, *]; done)) | (exfalso; first | contradiction | (simp_all; done)))); (case zqc => (unfold isW; decide)))
    · have h2' := Int32.not_lt.mp h2
      (try simp only [nI_0f v.1, Classical.not_not, m0] at h2)
      refine gp_aload_n dX9_heats_9 rfl ?_
      refine gp_giv dX9_heats_10 mf_9_117 (by decide) (by first | rfl | assumption | (simp only [*]; done)) (by first | exact m0 | exact rfl) ?_
      refine gp_ifc (t := 23) dX9_heats_13 (by decide) c1_ne (fun h3 => ?_) (fun h3 => ?_)
      · (try simp only [nI_0f v.1, Classical.not_not, m0] at h3)
        refine gp_iload_n dX9_heats_23 rfl ?_
        refine gp_pu (st' := .int (2) :: _) dX9_heats_24 rfl ?_
        refine gp_icc (t := 33) dX9_heats_25 (by decide) c2_lt (fun h4 => ?_) (fun h4 => ?_)
        · have h4' := Int32.not_le.mpr h4
          (try simp only [nI_0f v.1, Classical.not_not, m0] at h4)
          refine gp_aload_n dX9_heats_33 rfl ?_
          refine gp_pu (st' := .int (-6) :: _) dX9_heats_34 rfl ?_
          refine gp_call (kind := 1) (args := [.ref _, .int _]) (rest := _) dX9_heats_36 (Or.inr (Or.inl ⟨rfl, rfl⟩)) mk_9_127 (by decide) me_127 rfl rfl rfl rfl rfl (mm_rc_of (by first | rfl | assumption | (simp only [*]; done))) (ok_X9_no _ _ _ _ (by decide)) rfl ?_
          refine gp_iret dX9_heats_39 rfl ?_
          first | (refine mNo ?zqa ?zqc hs; (case zqa => (first | ((simp [w_ht, *]; done)) | (exfalso; first | contradiction | (simp_all; done)))); (case zqc => (unfold isW; decide)))
        · have h4' := Int32.not_lt.mp h4
          (try simp only [nI_0f v.1, Classical.not_not, m0] at h4)
          refine gp_iload_n dX9_heats_28 rfl ?_
          refine gp_pu (st' := .int (4) :: _) dX9_heats_29 rfl ?_
          refine gp_icc (t := 40) dX9_heats_30 (by decide) c2_le (fun h5 => ?_) (fun h5 => ?_)
          · have h5' := Int32.not_lt.mpr h5
            (try simp only [nI_0f v.1, Classical.not_not, m0] at h5)
            refine gp_aload_n dX9_heats_40 rfl ?_
            refine gp_giv dX9_heats_41 mf_9_117 (by decide) (by first | rfl | assumption | (simp only [*]; done)) (by first | exact m0 | exact rfl) ?_
            refine gp_istore_n (ls' := [some (.ref _), some (.int _), some (.int _), some (.int _), none, none, none, none, none]) dX9_heats_44 rfl (Nat.le_of_ble_eq_true rfl) ?_
            refine gp_pu (st' := .int (0) :: _) dX9_heats_45 rfl ?_
            refine gp_istore (ls' := [some (.ref _), some (.int _), some (.int _), some (.int _), some (.int _), none, none, none, none]) dX9_heats_46 rfl (Nat.le_of_ble_eq_true rfl) ?_
            refine gp_pu (st' := .int (0) :: _) dX9_heats_48 rfl ?_
            refine gp_istore (ls' := [some (.ref _), some (.int _), some (.int _), some (.int _), some (.int _), some (.int _), none, none, none]) dX9_heats_49 rfl (Nat.le_of_ble_eq_true rfl) ?_
            (have hw : w_ht N k w = 0 := by simp [w_ht, *]
             rw [hw]
             obtain ⟨q, e1, e2, e3, e4⟩ := y_lim (k := k) (by assumption) (by assumption)
             rw [show q_ht I N k w = q_hr w (y_ht (tC I) q 8 N id 0) by rw [q_ht, e4]]
             rw [e1]
             exact lp_mhz d v e2 e3 (by omega) w N 0 J (by omega) hs (fun j hj => absurd hj (by omega)))
          · have h5' := Int32.not_le.mp h5
            (try simp only [nI_0f v.1, Classical.not_not, m0] at h5)
            refine gp_aload_n dX9_heats_33 rfl ?_
            refine gp_pu (st' := .int (-6) :: _) dX9_heats_34 rfl ?_
            refine gp_call (kind := 1) (args := [.ref _, .int _]) (rest := _) dX9_heats_36 (Or.inr (Or.inl ⟨rfl, rfl⟩)) mk_9_127 (by decide) me_127 rfl rfl rfl rfl rfl (mm_rc_of (by first | rfl | assumption | (simp only [*]; done))) (ok_X9_no _ _ _ _ (by decide)) rfl ?_
            refine gp_iret dX9_heats_39 rfl ?_
            first | (refine mNo ?zqa ?zqc hs; (case zqa => (first | ((simp [w_ht, *]; done)) | (exfalso; first | contradiction | (simp_all; done)))); (case zqc => (unfold isW; decide)))
      · (try simp only [nI_0f v.1, Classical.not_not, m0] at h3)
        refine gp_aload_n dX9_heats_16 rfl ?_
        refine gp_pu (st' := .int (-5) :: _) dX9_heats_17 rfl ?_
        refine gp_call (kind := 1) (args := [.ref _, .int _]) (rest := _) dX9_heats_19 (Or.inr (Or.inl ⟨rfl, rfl⟩)) mk_9_127 (by decide) me_127 rfl rfl rfl rfl rfl (mm_rc_of (by first | rfl | assumption | (simp only [*]; done))) (ok_X9_no _ _ _ _ (by decide)) rfl ?_
        refine gp_iret dX9_heats_22 rfl ?_
        first | (refine mNo ?zqa ?zqc hs; (case zqa => (first | ((simp [w_ht, *]; done)) | (exfalso; first | contradiction | (simp_all; done)))); (case zqc => (unfold isW; decide)))

theorem eq_heats (k w : Int32) : eqc 86 200 [.int k, .int w] := by
  refine eqc_q fun I L hR => ?_
  obtain ⟨N, S, hb, hS, hL, hK, hT, hW, hE⟩ := hR
  refine ⟨_, w_ht N k w, w_ht_w N k w, cl_heats 33 hb, fun C J hs => ml_heats 32 hb.1 hs⟩
end P93
