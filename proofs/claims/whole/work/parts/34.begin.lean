/-! LAYER A: the reference's times of all sorts; the racer takes a child and begins -/
theorem mm_in_i {x : Int32} {n : Nat} (hn : n < 2 ^ 31) : mm_in x n = true ↔ 0 ≤ x ∧ x < nI n := by
  constructor
  · intro h
    obtain ⟨j, hj, rfl⟩ := vp_in_of (mm_in_of h) hn
    exact ⟨nI_pos' (by omega), nI_lt hj hn⟩
  · intro ⟨h0, h1⟩
    obtain ⟨j, hj, rfl⟩ := nI_of (Int32.not_lt.mpr h0)
    have hjn : j < n := (nI_ltI hj hn).mp h1
    unfold mm_in
    rw [nI_clamp hj]
    simp [hjn, nI_pos' hj]
theorem mm_in_8 {x : Int32} : mm_in x 8 = true ↔ 0 ≤ x ∧ x < 8 := mm_in_i (n := 8) (by omega)
theorem mm_in_7 {x : Int32} : mm_in x 7 = true ↔ 0 ≤ x ∧ x < 7 := mm_in_i (n := 7) (by omega)
theorem m_puts_35 (I : mI) (c : Int32) : m_puts I c 35 = I 110 c.toNatClampNeg := by simp [m_puts, m_putsIn, up_o, up_s]
theorem m_putsIn_35 (μ ln hl : mRow) (k : Int32) : m_putsIn μ ln hl k 35 = μ 35 := by simp [m_putsIn, up_o]
def u_above (k : Int32) : Int32 := ([-1, 0, 0, 1, 0, 2, 4] : List Int32).getD k.toNatClampNeg 0
def s_under : Nat → Int32 → Int32 → Int32
  | 0, _, _ => 0
  | n + 1, a, w => if 0 ≤ a ∧ a < 7 then (if a = w then 1 else s_under n (u_above a) w) else 0
theorem s_under_01 : ∀ (n : Nat) (a w : Int32), s_under n a w = 0 ∨ s_under n a w = 1
  | 0, _, _ => Or.inl rfl
  | n + 1, a, w => by
    unfold s_under
    split
    · split
      · exact Or.inr rfl
      · exact s_under_01 n _ w
    · exact Or.inl rfl

set_option maxHeartbeats 1000000 in
theorem ok_X9_inOf (d : Nat) (I : mI) (L : mL) (c : Int32) (hc : mm_in c 8 = true) (hk : I 108 1 = 0 ∨ mm_in (I 113 c.toNatClampNeg) 8 = true) (hd : isKd (I 110 c.toNatClampNeg)) : mm_Call (d + 7) 180 [.ref 108, .int c] (mm_sh, mm_R, I, L) (some (.int (m_in (m_puts I c)))) (mm_sh, mm_R, (sr I 108 (m_inM (m_puts I c))), L) := by
  refine mm_Call.of_go (d := d + 6) me_180 ⟨Nat.le_of_ble_eq_true rfl, rfl⟩ ?_
  show mm_Go mm_cs0 _ _ _ _ _ _ [some (.ref _), some (.int _)] [] _ _ _
  refine go_aload_n dX9_inOf_0 rfl ?_
  refine go_iload_n dX9_inOf_1 rfl ?_
  refine go_call (kind := 1) (args := [.ref _, .int _]) (rest := _) dX9_inOf_2 (Or.inr (Or.inl ⟨rfl, rfl⟩)) mk_9_134 (by decide) me_166 rfl rfl rfl rfl rfl (mm_rc_of (by first | rfl | assumption | (simp only [*]; done))) (ok_X9_puts _ _ _ _ hc hk) rfl ?_
  refine go_aload_n dX9_inOf_5 rfl ?_
  refine go_call (kind := 1) (args := [.ref _]) (rest := _) dX9_inOf_6 (Or.inr (Or.inl ⟨rfl, rfl⟩)) mk_9_290 (by decide) me_179 rfl rfl rfl rfl rfl (mm_rc_of (by first | rfl | assumption | (simp only [*]; done))) (ok_X9_in _ _ _ (by simpa [mm_u_sr, sr_same, sr_sr, up_s, up_o, sr_other, m_puts_35, m_putsIn_35] using hd)) rfl ?_
  refine go_iret dX9_inOf_9 rfl ?_ ?_
  · first | rfl | (simp [m_puts_35, mm_u_sr, sr_same, sr_sr, up_s, up_o, sr_other, *]; done) | ((try simp [mm_u_sr, sr_same, sr_sr, up_s, up_o, sr_other, -Int32.not_lt, -Int32.not_le] at *) <;> simp [m_puts_35, mm_u_sr, sr_same, sr_sr, up_s, up_o, sr_other, *, -Int32.not_lt, -Int32.not_le]; done) | (simp_all [m_puts_35, mm_u_sr, sr_same, sr_sr, up_s, up_o, sr_other]; done)
  · first | rfl | (simp [m_puts_35, mm_u_sr, sr_same, sr_sr, up_s, up_o, sr_other, *]; done) | ((try simp [mm_u_sr, sr_same, sr_sr, up_s, up_o, sr_other, -Int32.not_lt, -Int32.not_le] at *) <;> simp [m_puts_35, mm_u_sr, sr_same, sr_sr, up_s, up_o, sr_other, *, -Int32.not_lt, -Int32.not_le]; done) | (simp_all [m_puts_35, mm_u_sr, sr_same, sr_sr, up_s, up_o, sr_other]; done)

set_option maxHeartbeats 1000000 in
theorem ok_X9_inAs (d : Nat) (I : mI) (L : mL) (c : Int32) (hc : mm_in c 8 = true) (hk : I 108 1 = 0 ∨ mm_in (I 113 c.toNatClampNeg) 8 = true) (hd : isKd (I 110 c.toNatClampNeg)) (k : Int32) (hd : isKd k) : mm_Call (d + 7) 182 [.ref 108, .int c, .int k] (mm_sh, mm_R, I, L) (some (.int (m_in (upd (m_puts I c) 35 k)))) (mm_sh, mm_R, (sr I 108 (m_inM (upd (m_puts I c) 35 k))), L) := by
  refine mm_Call.of_go (d := d + 6) me_182 ⟨Nat.le_of_ble_eq_true rfl, rfl⟩ ?_
  show mm_Go mm_cs0 _ _ _ _ _ _ [some (.ref _), some (.int _), some (.int _)] [] _ _ _
  refine go_aload_n dX9_inAs_0 rfl ?_
  refine go_iload_n dX9_inAs_1 rfl ?_
  refine go_call (kind := 1) (args := [.ref _, .int _]) (rest := _) dX9_inAs_2 (Or.inr (Or.inl ⟨rfl, rfl⟩)) mk_9_134 (by decide) me_166 rfl rfl rfl rfl rfl (mm_rc_of (by first | rfl | assumption | (simp only [*]; done))) (ok_X9_puts _ _ _ _ hc hk) rfl ?_
  refine go_aload_n dX9_inAs_5 rfl ?_
  refine go_iload_n dX9_inAs_6 rfl ?_
  refine go_pi dX9_inAs_7 mf_9_224 rfl rfl (by first | rfl | assumption | (simp only [*]; done)) ?_
  refine go_aload_n dX9_inAs_10 rfl ?_
  refine go_call (kind := 1) (args := [.ref _]) (rest := _) dX9_inAs_11 (Or.inr (Or.inl ⟨rfl, rfl⟩)) mk_9_290 (by decide) me_179 rfl rfl rfl rfl rfl (mm_rc_of (by first | rfl | assumption | (simp only [*]; done))) (ok_X9_in _ _ _ (by simpa [mm_u_sr, sr_same, sr_sr, up_s, up_o, sr_other, m_puts_35, m_putsIn_35] using hd)) rfl ?_
  refine go_iret dX9_inAs_14 rfl ?_ ?_
  · first | rfl | (simp [m_puts_35, mm_u_sr, sr_same, sr_sr, up_s, up_o, sr_other, *]; done) | ((try simp [mm_u_sr, sr_same, sr_sr, up_s, up_o, sr_other, -Int32.not_lt, -Int32.not_le] at *) <;> simp [m_puts_35, mm_u_sr, sr_same, sr_sr, up_s, up_o, sr_other, *, -Int32.not_lt, -Int32.not_le]; done) | (simp_all [m_puts_35, mm_u_sr, sr_same, sr_sr, up_s, up_o, sr_other]; done)
  · first | rfl | (simp [m_puts_35, mm_u_sr, sr_same, sr_sr, up_s, up_o, sr_other, *]; done) | ((try simp [mm_u_sr, sr_same, sr_sr, up_s, up_o, sr_other, -Int32.not_lt, -Int32.not_le] at *) <;> simp [m_puts_35, mm_u_sr, sr_same, sr_sr, up_s, up_o, sr_other, *, -Int32.not_lt, -Int32.not_le]; done) | (simp_all [m_puts_35, mm_u_sr, sr_same, sr_sr, up_s, up_o, sr_other]; done)

set_option maxHeartbeats 1000000 in
theorem ok_X9_inFrom (d : Nat) (I : mI) (L : mL) (c : Int32) (hc : mm_in c 8 = true) (hk : I 108 1 = 0 ∨ mm_in (I 113 c.toNatClampNeg) 8 = true) (hd : isKd (I 110 c.toNatClampNeg)) (v : Int32) : mm_Call (d + 7) 183 [.ref 108, .int c, .int v] (mm_sh, mm_R, I, L) (some (.int (m_in (upd (m_puts I c) 40 v)))) (mm_sh, mm_R, (sr I 108 (m_inM (upd (m_puts I c) 40 v))), L) := by
  refine mm_Call.of_go (d := d + 6) me_183 ⟨Nat.le_of_ble_eq_true rfl, rfl⟩ ?_
  show mm_Go mm_cs0 _ _ _ _ _ _ [some (.ref _), some (.int _), some (.int _)] [] _ _ _
  refine go_aload_n dX9_inFrom_0 rfl ?_
  refine go_iload_n dX9_inFrom_1 rfl ?_
  refine go_call (kind := 1) (args := [.ref _, .int _]) (rest := _) dX9_inFrom_2 (Or.inr (Or.inl ⟨rfl, rfl⟩)) mk_9_134 (by decide) me_166 rfl rfl rfl rfl rfl (mm_rc_of (by first | rfl | assumption | (simp only [*]; done))) (ok_X9_puts _ _ _ _ hc hk) rfl ?_
  refine go_aload_n dX9_inFrom_5 rfl ?_
  refine go_iload_n dX9_inFrom_6 rfl ?_
  refine go_pi dX9_inFrom_7 mf_9_233 rfl rfl (by first | rfl | assumption | (simp only [*]; done)) ?_
  refine go_aload_n dX9_inFrom_10 rfl ?_
  refine go_call (kind := 1) (args := [.ref _]) (rest := _) dX9_inFrom_11 (Or.inr (Or.inl ⟨rfl, rfl⟩)) mk_9_290 (by decide) me_179 rfl rfl rfl rfl rfl (mm_rc_of (by first | rfl | assumption | (simp only [*]; done))) (ok_X9_in _ _ _ (by simpa [mm_u_sr, sr_same, sr_sr, up_s, up_o, sr_other, m_puts_35, m_putsIn_35] using hd)) rfl ?_
  refine go_iret dX9_inFrom_14 rfl ?_ ?_
  · first | rfl | (simp [m_puts_35, mm_u_sr, sr_same, sr_sr, up_s, up_o, sr_other, *]; done) | ((try simp [mm_u_sr, sr_same, sr_sr, up_s, up_o, sr_other, -Int32.not_lt, -Int32.not_le] at *) <;> simp [m_puts_35, mm_u_sr, sr_same, sr_sr, up_s, up_o, sr_other, *, -Int32.not_lt, -Int32.not_le]; done) | (simp_all [m_puts_35, mm_u_sr, sr_same, sr_sr, up_s, up_o, sr_other]; done)
  · first | rfl | (simp [m_puts_35, mm_u_sr, sr_same, sr_sr, up_s, up_o, sr_other, *]; done) | ((try simp [mm_u_sr, sr_same, sr_sr, up_s, up_o, sr_other, -Int32.not_lt, -Int32.not_le] at *) <;> simp [m_puts_35, mm_u_sr, sr_same, sr_sr, up_s, up_o, sr_other, *, -Int32.not_lt, -Int32.not_le]; done) | (simp_all [m_puts_35, mm_u_sr, sr_same, sr_sr, up_s, up_o, sr_other]; done)

set_option maxHeartbeats 1000000 in
theorem ok_X9_inRolling (d : Nat) (I : mI) (L : mL) (c : Int32) (hc : mm_in c 8 = true) (hk : I 108 1 = 0 ∨ mm_in (I 113 c.toNatClampNeg) 8 = true) (hd : isKd (I 110 c.toNatClampNeg)) (v : Int32) : mm_Call (d + 7) 184 [.ref 108, .int c, .int v] (mm_sh, mm_R, I, L) (some (.int (m_in (upd (m_puts I c) 41 v)))) (mm_sh, mm_R, (sr I 108 (m_inM (upd (m_puts I c) 41 v))), L) := by
  refine mm_Call.of_go (d := d + 6) me_184 ⟨Nat.le_of_ble_eq_true rfl, rfl⟩ ?_
  show mm_Go mm_cs0 _ _ _ _ _ _ [some (.ref _), some (.int _), some (.int _)] [] _ _ _
  refine go_aload_n dX9_inRolling_0 rfl ?_
  refine go_iload_n dX9_inRolling_1 rfl ?_
  refine go_call (kind := 1) (args := [.ref _, .int _]) (rest := _) dX9_inRolling_2 (Or.inr (Or.inl ⟨rfl, rfl⟩)) mk_9_134 (by decide) me_166 rfl rfl rfl rfl rfl (mm_rc_of (by first | rfl | assumption | (simp only [*]; done))) (ok_X9_puts _ _ _ _ hc hk) rfl ?_
  refine go_aload_n dX9_inRolling_5 rfl ?_
  refine go_iload_n dX9_inRolling_6 rfl ?_
  refine go_pi dX9_inRolling_7 mf_9_236 rfl rfl (by first | rfl | assumption | (simp only [*]; done)) ?_
  refine go_aload_n dX9_inRolling_10 rfl ?_
  refine go_call (kind := 1) (args := [.ref _]) (rest := _) dX9_inRolling_11 (Or.inr (Or.inl ⟨rfl, rfl⟩)) mk_9_290 (by decide) me_179 rfl rfl rfl rfl rfl (mm_rc_of (by first | rfl | assumption | (simp only [*]; done))) (ok_X9_in _ _ _ (by simpa [mm_u_sr, sr_same, sr_sr, up_s, up_o, sr_other, m_puts_35, m_putsIn_35] using hd)) rfl ?_
  refine go_iret dX9_inRolling_14 rfl ?_ ?_
  · first | rfl | (simp [m_puts_35, mm_u_sr, sr_same, sr_sr, up_s, up_o, sr_other, *]; done) | ((try simp [mm_u_sr, sr_same, sr_sr, up_s, up_o, sr_other, -Int32.not_lt, -Int32.not_le] at *) <;> simp [m_puts_35, mm_u_sr, sr_same, sr_sr, up_s, up_o, sr_other, *, -Int32.not_lt, -Int32.not_le]; done) | (simp_all [m_puts_35, mm_u_sr, sr_same, sr_sr, up_s, up_o, sr_other]; done)
  · first | rfl | (simp [m_puts_35, mm_u_sr, sr_same, sr_sr, up_s, up_o, sr_other, *]; done) | ((try simp [mm_u_sr, sr_same, sr_sr, up_s, up_o, sr_other, -Int32.not_lt, -Int32.not_le] at *) <;> simp [m_puts_35, mm_u_sr, sr_same, sr_sr, up_s, up_o, sr_other, *, -Int32.not_lt, -Int32.not_le]; done) | (simp_all [m_puts_35, mm_u_sr, sr_same, sr_sr, up_s, up_o, sr_other]; done)

set_option maxHeartbeats 1000000 in
theorem ok_X9_inWith (d : Nat) (I : mI) (L : mL) (c : Int32) (hc : mm_in c 8 = true) (hk : I 108 1 = 0 ∨ mm_in (I 113 c.toNatClampNeg) 8 = true) (hd : isKd (I 110 c.toNatClampNeg)) (k : Int32) (hq : m_puts I c 1 = 0 ∨ mm_in k 8 = true) : mm_Call (d + 7) 181 [.ref 108, .int c, .int k] (mm_sh, mm_R, I, L) (some (.int (m_in (m_putsIn (m_puts I c) (I 116) (I 117) k)))) (mm_sh, mm_R, (sr I 108 (m_inM (m_putsIn (m_puts I c) (I 116) (I 117) k))), L) := by
  refine mm_Call.of_go (d := d + 6) me_181 ⟨Nat.le_of_ble_eq_true rfl, rfl⟩ ?_
  show mm_Go mm_cs0 _ _ _ _ _ _ [some (.ref _), some (.int _), some (.int _)] [] _ _ _
  refine go_aload_n dX9_inWith_0 rfl ?_
  refine go_iload_n dX9_inWith_1 rfl ?_
  refine go_call (kind := 1) (args := [.ref _, .int _]) (rest := _) dX9_inWith_2 (Or.inr (Or.inl ⟨rfl, rfl⟩)) mk_9_134 (by decide) me_166 rfl rfl rfl rfl rfl (mm_rc_of (by first | rfl | assumption | (simp only [*]; done))) (ok_X9_puts _ _ _ _ hc hk) rfl ?_
  refine go_aload_n dX9_inWith_5 rfl ?_
  refine go_iload_n dX9_inWith_6 rfl ?_
  refine go_call (kind := 1) (args := [.ref _, .int _]) (rest := _) dX9_inWith_7 (Or.inr (Or.inl ⟨rfl, rfl⟩)) mk_9_239 (by decide) me_167 rfl rfl rfl rfl rfl (mm_rc_of (by first | rfl | assumption | (simp only [*]; done))) (ok_X9_putsIn _ _ _ _ (by simpa [mm_u_sr, sr_same, sr_sr, up_s, up_o, sr_other] using hq)) rfl ?_
  refine go_aload_n dX9_inWith_10 rfl ?_
  refine go_call (kind := 1) (args := [.ref _]) (rest := _) dX9_inWith_11 (Or.inr (Or.inl ⟨rfl, rfl⟩)) mk_9_290 (by decide) me_179 rfl rfl rfl rfl rfl (mm_rc_of (by first | rfl | assumption | (simp only [*]; done))) (ok_X9_in _ _ _ (by simpa [mm_u_sr, sr_same, sr_sr, up_s, up_o, sr_other, m_puts_35, m_putsIn_35] using hd)) rfl ?_
  refine go_iret dX9_inWith_14 rfl ?_ ?_
  · first | rfl | (simp [m_puts_35, mm_u_sr, sr_same, sr_sr, up_s, up_o, sr_other, *]; done) | ((try simp [mm_u_sr, sr_same, sr_sr, up_s, up_o, sr_other, -Int32.not_lt, -Int32.not_le] at *) <;> simp [m_puts_35, mm_u_sr, sr_same, sr_sr, up_s, up_o, sr_other, *, -Int32.not_lt, -Int32.not_le]; done) | (simp_all [m_puts_35, mm_u_sr, sr_same, sr_sr, up_s, up_o, sr_other]; done)
  · first | rfl | (simp [m_puts_35, mm_u_sr, sr_same, sr_sr, up_s, up_o, sr_other, *]; done) | ((try simp [mm_u_sr, sr_same, sr_sr, up_s, up_o, sr_other, -Int32.not_lt, -Int32.not_le] at *) <;> simp [m_puts_35, mm_u_sr, sr_same, sr_sr, up_s, up_o, sr_other, *, -Int32.not_lt, -Int32.not_le]; done) | (simp_all [m_puts_35, mm_u_sr, sr_same, sr_sr, up_s, up_o, sr_other]; done)

set_option maxHeartbeats 1000000 in
theorem lp_X8_isUnder (d : Nat) (I : mI) (L : mL) (k w : Int32) : ∀ (n i : Nat) (a : Int32), i + n = 7 → mm_Go mm_cs0 (d + 1) 8 false (some .boolean) cX8_isUnder 4 [some (.int k), some (.int w), some (.int a), some (.int (nI i))] [] (mm_sh, mm_R, I, L) (some (.int (s_under n a w))) (mm_sh, mm_R, I, L) := by
  intro n
  induction n with
  | zero =>
    intro i a hi
    obtain rfl : i = 7 := by omega
    have hc : (7 : Int32) ≤ nI 7 := by decide
    refine go_iload_n dX8_isUnder_4 rfl ?_
    refine go_pu (st' := .int (7) :: _) dX8_isUnder_5 rfl ?_
    refine go_icc (t := 36) dX8_isUnder_7 (by decide) c2_ge (fun h1 => ?_) (fun h1 => ?_)
    · have h1' := Int32.not_lt.mpr h1
      refine go_pu (st' := .int (0) :: _) dX8_isUnder_36 rfl ?_
      refine go_zret dX8_isUnder_37 rfl (by first | exact Or.inl rfl | exact Or.inr rfl | assumption) ?_ ?_
      · first | rfl | (rw [bi_0] at h2; rw [s_under, if_neg h2]; done) | (simp [s_under, *]; done) | (simp_all [s_under, bi_0, bi_1]; done)
      · first | rfl | (rw [bi_0] at h2; rw [s_under, if_neg h2]; done) | (simp [s_under, *]; done) | (simp_all [s_under, bi_0, bi_1]; done)
    · exact absurd hc h1
  | succ n ih =>
    intro i a hi
    have hc : ¬ (7 : Int32) ≤ nI i := nI_ge (a := i) (b := 7) (by omega) (by omega)
    refine go_iload_n dX8_isUnder_4 rfl ?_
    refine go_pu (st' := .int (7) :: _) dX8_isUnder_5 rfl ?_
    refine go_icc (t := 36) dX8_isUnder_7 (by decide) c2_ge (fun h1 => ?_) (fun h1 => ?_)
    · exact absurd h1 hc
    · have h1' := Int32.not_le.mp h1
      refine go_iload_n dX8_isUnder_10 rfl ?_
      refine go_call (kind := 0) (args := [.int _]) (rest := _) dX8_isUnder_11 (Or.inl ⟨rfl, rfl⟩) mk_8_135 (by decide) me_102 rfl rfl rfl rfl rfl rfl (ok_X8_isKind _ _ _ _) rfl ?_
      refine go_ifc (t := 36) dX8_isUnder_14 (by decide) c1_eq (fun h2 => ?_) (fun h2 => ?_)
      · refine go_pu (st' := .int (0) :: _) dX8_isUnder_36 rfl ?_
        refine go_zret dX8_isUnder_37 rfl (by first | exact Or.inl rfl | exact Or.inr rfl | assumption) ?_ ?_
        · first | rfl | (rw [bi_0] at h2; rw [s_under, if_neg h2]; done) | (simp [s_under, *]; done) | (simp_all [s_under, bi_0, bi_1]; done)
        · first | rfl | (rw [bi_0] at h2; rw [s_under, if_neg h2]; done) | (simp [s_under, *]; done) | (simp_all [s_under, bi_0, bi_1]; done)
      · refine go_iload_n dX8_isUnder_17 rfl ?_
        refine go_iload_n dX8_isUnder_18 rfl ?_
        refine go_icc (t := 24) dX8_isUnder_19 (by decide) c2_ne (fun h3 => ?_) (fun h3 => ?_)
        · refine go_gs dX8_isUnder_24 rfl ?_
          refine go_iload_n dX8_isUnder_27 rfl ?_
          refine go_iac dX8_isUnder_28 rfl (by rw [mm_in_7]; simpa [bi_0] using h2) ?_
          refine go_istore_n (ls' := [some (.int _), some (.int _), some (.int _), some (.int _)]) dX8_isUnder_29 rfl (Nat.le_of_ble_eq_true rfl) ?_
          refine go_iinc (v := (1)) (ls' := [some (.int _), some (.int _), some (.int _), some (.int _)]) dX8_isUnder_30 rfl (by decide) rfl ?_
          refine go_goto (t := 4) dX8_isUnder_33 (by decide) ?_
          rw [nI_1]
          have hz := ih (i + 1) (u_above a) (by omega)
          rw [bi_0, Classical.not_not] at h2
          rw [show s_under (n + 1) a w = s_under n (u_above a) w from by rw [s_under, if_pos h2, if_neg h3]]
          exact hz
        · refine go_pu (st' := .int (1) :: _) dX8_isUnder_22 rfl ?_
          refine go_zret dX8_isUnder_23 rfl (by first | exact Or.inl rfl | exact Or.inr rfl | assumption) ?_ ?_
          · first | rfl | (rw [bi_0] at h2; rw [s_under, if_neg h2]; done) | (simp [s_under, *]; done) | (simp_all [s_under, bi_0, bi_1]; done)
          · first | rfl | (rw [bi_0] at h2; rw [s_under, if_neg h2]; done) | (simp [s_under, *]; done) | (simp_all [s_under, bi_0, bi_1]; done)

set_option maxHeartbeats 1000000 in
theorem ok_X8_isUnder (d : Nat) (I : mI) (L : mL) (k w : Int32) : mm_Call (d + 2) 104 [.int k, .int w] (mm_sh, mm_R, I, L) (some (.int (s_under 7 k w))) (mm_sh, mm_R, I, L) := by
  refine mm_Call.of_go (d := d + 1) me_104 ⟨Nat.le_of_ble_eq_true rfl, rfl⟩ ?_
  show mm_Go mm_cs0 _ _ _ _ _ _ [some (.int _), some (.int _), none, none] [] _ _ _
  refine go_iload_n dX8_isUnder_0 rfl ?_
  refine go_istore_n (ls' := [some (.int _), some (.int _), some (.int _), none]) dX8_isUnder_1 rfl (Nat.le_of_ble_eq_true rfl) ?_
  refine go_pu (st' := .int (0) :: _) dX8_isUnder_2 rfl ?_
  refine go_istore_n (ls' := [some (.int _), some (.int _), some (.int _), some (.int _)]) dX8_isUnder_3 rfl (Nat.le_of_ble_eq_true rfl) ?_
  exact lp_X8_isUnder d I L k w 7 0 k rfl

/-- f is a field: its arrays, its children, its sacks -/
def isF (f : Nat) : Prop := mm_sh[f]? = some (1, 0) ∧ mm_R f 0 = some (f + 1) ∧ mm_sh[f + 1]? = some (102, 8) ∧ mm_R f 2 = some (f + 2) ∧ mm_sh[f + 2]? = some (108, 8) ∧ mm_R f 4 = some (f + 3) ∧ mm_sh[f + 3]? = some (100, 4) ∧ (∀ j, j < 8 → mm_R (f + 1) j = some (f + 4 + j) ∧ mm_sh[f + 4 + j]? = some (0, 0) ∧ mm_R (f + 2) j = some (f + 12 + j) ∧ mm_sh[f + 12 + j]? = some (6, 0))
theorem isF_1 : isF 1 := by refine ⟨rfl, rfl, rfl, rfl, rfl, rfl, rfl, ?_⟩; decide
theorem isF_21 : isF 21 := by refine ⟨rfl, rfl, rfl, rfl, rfl, rfl, rfl, ?_⟩; decide
theorem isF_41 : isF 41 := by refine ⟨rfl, rfl, rfl, rfl, rfl, rfl, rfl, ?_⟩; decide
/-- r is a racer, r + 1 whom he holds -/
def isRa (r : Nat) : Prop := mm_sh[r]? = some (4, 0) ∧ mm_R r 0 = some (r + 1) ∧ mm_sh[r + 1]? = some (0, 0)
theorem isRa_62 : isRa 62 := ⟨rfl, rfl, rfl⟩
theorem isRa_c : ∀ c, c < 8 → isRa (92 + 2 * c) ∧ mm_R 64 c = some (92 + 2 * c) := by
  intro c hc
  have : ∀ c, c < 8 → (mm_sh[92 + 2 * c]? = some (4, 0) ∧ mm_R (92 + 2 * c) 0 = some (92 + 2 * c + 1) ∧ mm_sh[92 + 2 * c + 1]? = some (0, 0)) ∧ mm_R 64 c = some (92 + 2 * c) := by decide
  exact this c hc
def i_abs (x : Int32) : Int32 := if 0 ≤ x then x else 0 - x
def x_in (I : mI) (f : Nat) (κ : mRow) : Prop := 0 ≤ κ 3 ∧ κ 3 < I f 3
def x_slack (I : mI) (f : Nat) (κ : mRow) (more : Int32) : Int32 := if 0 ≤ κ 3 ∧ κ 3 < I f 3 then i_abs (I (f + 12 + (κ 3).toNatClampNeg) 0 - κ 2) + more else 0
def x_holes (I : mI) (f : Nat) (κ : mRow) : Int32 := if 0 ≤ κ 3 ∧ κ 3 < I f 3 then I (f + 12 + (κ 3).toNatClampNeg) 1 else 0
def x_risk (κ : mRow) (s h : Int32) : Int32 := if s_under 7 (κ 0) 4 = 0 then 5 * s + 3 * h + k_stride (κ 0) (κ 1) (κ 2) s else (5 * s + 3 * h + k_stride (κ 0) (κ 1) (κ 2) s) / 2
def r_begin (ρ κ τ : mRow) (s h : Int32) : mRow :=
  upd (upd (upd (upd (upd (upd (upd (upd (upd (upd (upd (upd (upd ρ 6 (k_stride (κ 0) (κ 1) (κ 2) s)) 7 (k_puff (κ 0))) 8 (x_risk κ s h)) 3 (τ 0)) 4 (τ 1)) 5 (if 0 < τ 2 - κ 2 then τ 2 - κ 2 else 0)) 10 (τ 3)) 9 (κ 4)) 11 0) 12 0) 13 0) 14 (-1)) 15 0
