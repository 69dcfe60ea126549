/-! LAYER A: the reference's time at the rope -/
def m_putsIn (μ ln hl : mRow) (k : Int32) : mRow :=
  let μ := upd μ 38 (if μ 1 = 0 then 0 else if ln k.toNatClampNeg - μ 37 < 0 then -(ln k.toNatClampNeg - μ 37) else ln k.toNatClampNeg - μ 37)
  upd μ 39 (if μ 1 = 0 then 0 else hl k.toNatClampNeg)
def m_puts (I : mI) (c : Int32) : mRow :=
  m_putsIn (upd (upd (upd (upd (upd (I 108) 35 (I 110 c.toNatClampNeg)) 36 (I 111 c.toNatClampNeg)) 37 (I 112 c.toNatClampNeg)) 40 (I 114 c.toNatClampNeg)) 41 (I 108 6)) (I 116) (I 117) (I 113 c.toNatClampNeg)
def m_go : Nat → mRow → mRow
  | 0, μ => μ
  | n + 1, μ => if μ 42 < μ 2 then m_go n (m_sec μ) else μ
def m_cnt : Nat → mRow → Nat
  | 0, _ => 0
  | n + 1, μ => if μ 42 < μ 2 then m_cnt n (m_sec μ) + 1 else 0
def m_inR (e : mRow) (n : Nat) : Int32 := if e 42 < e 2 then 999 else m_rope e (nI n)
def m_in (μ : mRow) : Int32 := m_inR (m_go 999 (m_starts μ)) (m_cnt 999 (m_starts μ))
def m_inM (μ : mRow) : mRow := m_go 999 (m_starts μ)
theorem m_sec_k (μ : mRow) : m_sec μ 35 = μ 35 := by
  unfold m_sec m_rests m_falls
  simp only []
  repeat' split
  all_goals simp [up_o, m_puffs_k]

set_option maxHeartbeats 1000000 in
theorem ok_X9_putsIn (d : Nat) (I : mI) (L : mL) (k : Int32) (hk : I 108 1 = 0 ∨ mm_in k 8 = true) : mm_Call (d + 2) 167 [.ref 108, .int k] (mm_sh, mm_R, I, L) none (mm_sh, mm_R, (sr I 108 (m_putsIn (I 108) (I 116) (I 117) k)), L) := by
  refine mm_Call.of_go (d := d + 1) me_167 ⟨Nat.le_of_ble_eq_true rfl, rfl⟩ ?_
  show mm_Go mm_cs0 _ _ _ _ _ _ [some (.ref _), some (.int _)] [] _ _ _
  refine go_aload_n dX9_putsIn_0 rfl ?_
  refine go_aload_n dX9_putsIn_1 rfl ?_
  refine go_gi dX9_putsIn_2 mf_9_120 (by decide) (by first | rfl | assumption | (simp only [*]; done)) ?_
  refine go_ifc (t := 12) dX9_putsIn_5 (by decide) c1_ne (fun h1 => ?_) (fun h1 => ?_)
  · refine go_aload_n dX9_putsIn_12 rfl ?_
    refine go_aload_n dX9_putsIn_13 rfl ?_
    refine go_gr dX9_putsIn_14 mf_9_50 rfl (by first | rfl | assumption | (simp only [*]; done)) (by first | rfl | assumption | (simp only [*]; done)) ?_
    refine go_iload_n dX9_putsIn_17 rfl ?_
    refine go_ial dX9_putsIn_18 rfl (by first | rfl | assumption | (simp only [*]; done)) (by first | assumption | (rcases hk with z | z <;> simp_all [mm_u_sr, sr_same, sr_sr, up_s, up_o, sr_other])) ?_
    refine go_aload_n dX9_putsIn_19 rfl ?_
    refine go_gi dX9_putsIn_20 mf_9_230 (by decide) (by first | rfl | assumption | (simp only [*]; done)) ?_
    refine go_pu (st' := .int _ :: _) dX9_putsIn_23 rfl ?_
    refine go_call (kind := 1) (args := [.ref _, .int _]) (rest := _) dX9_putsIn_24 (Or.inr (Or.inl ⟨rfl, rfl⟩)) mk_9_242 (by decide) me_132 rfl rfl rfl rfl rfl (mm_rc_of (by first | rfl | assumption | (simp only [*]; done))) (ok_X9_abs _ _ _ _) rfl ?_
    refine go_pi dX9_putsIn_27 mf_9_245 rfl rfl (by first | rfl | assumption | (simp only [*]; done)) ?_
    refine go_aload_n dX9_putsIn_30 rfl ?_
    refine go_aload_n dX9_putsIn_31 rfl ?_
    refine go_gi dX9_putsIn_32 mf_9_120 (by decide) (by first | rfl | assumption | (simp only [*]; done)) ?_
    refine go_ifc (t := 42) dX9_putsIn_35 (by decide) c1_ne (fun h2 => ?_) (fun h2 => ?_)
    · refine go_aload_n dX9_putsIn_42 rfl ?_
      refine go_gr dX9_putsIn_43 mf_9_53 rfl (by first | rfl | assumption | (simp only [*]; done)) (by first | rfl | assumption | (simp only [*]; done)) ?_
      refine go_iload_n dX9_putsIn_46 rfl ?_
      refine go_ial dX9_putsIn_47 rfl (by first | rfl | assumption | (simp only [*]; done)) (by first | assumption | (rcases hk with z | z <;> simp_all [mm_u_sr, sr_same, sr_sr, up_s, up_o, sr_other])) ?_
      refine go_pi dX9_putsIn_48 mf_9_248 rfl rfl (by first | rfl | assumption | (simp only [*]; done)) ?_
      refine go_vret dX9_putsIn_51 rfl ?_ ?_
      · first | rfl | (simp [m_putsIn, mm_u_sr, sr_same, sr_sr, up_s, up_o, sr_other, *]; done) | ((try simp [mm_u_sr, sr_same, sr_sr, up_s, up_o, sr_other, -Int32.not_lt, -Int32.not_le] at *) <;> simp [m_putsIn, mm_u_sr, sr_same, sr_sr, up_s, up_o, sr_other, *, -Int32.not_lt, -Int32.not_le]; done) | (simp_all [m_putsIn, mm_u_sr, sr_same, sr_sr, up_s, up_o, sr_other]; done)
      · first | rfl | (simp [m_putsIn, mm_u_sr, sr_same, sr_sr, up_s, up_o, sr_other, *]; done) | ((try simp [mm_u_sr, sr_same, sr_sr, up_s, up_o, sr_other, -Int32.not_lt, -Int32.not_le] at *) <;> simp [m_putsIn, mm_u_sr, sr_same, sr_sr, up_s, up_o, sr_other, *, -Int32.not_lt, -Int32.not_le]; done) | (simp_all [m_putsIn, mm_u_sr, sr_same, sr_sr, up_s, up_o, sr_other]; done)
    · refine go_pu (st' := .int (0) :: _) dX9_putsIn_38 rfl ?_
      refine go_goto (t := 48) dX9_putsIn_39 (by decide) ?_
      refine go_pi dX9_putsIn_48 mf_9_248 rfl rfl (by first | rfl | assumption | (simp only [*]; done)) ?_
      refine go_vret dX9_putsIn_51 rfl ?_ ?_
      · first | rfl | (simp [m_putsIn, mm_u_sr, sr_same, sr_sr, up_s, up_o, sr_other, *]; done) | ((try simp [mm_u_sr, sr_same, sr_sr, up_s, up_o, sr_other, -Int32.not_lt, -Int32.not_le] at *) <;> simp [m_putsIn, mm_u_sr, sr_same, sr_sr, up_s, up_o, sr_other, *, -Int32.not_lt, -Int32.not_le]; done) | (simp_all [m_putsIn, mm_u_sr, sr_same, sr_sr, up_s, up_o, sr_other]; done)
      · first | rfl | (simp [m_putsIn, mm_u_sr, sr_same, sr_sr, up_s, up_o, sr_other, *]; done) | ((try simp [mm_u_sr, sr_same, sr_sr, up_s, up_o, sr_other, -Int32.not_lt, -Int32.not_le] at *) <;> simp [m_putsIn, mm_u_sr, sr_same, sr_sr, up_s, up_o, sr_other, *, -Int32.not_lt, -Int32.not_le]; done) | (simp_all [m_putsIn, mm_u_sr, sr_same, sr_sr, up_s, up_o, sr_other]; done)
  · refine go_pu (st' := .int (0) :: _) dX9_putsIn_8 rfl ?_
    refine go_goto (t := 27) dX9_putsIn_9 (by decide) ?_
    refine go_pi dX9_putsIn_27 mf_9_245 rfl rfl (by first | rfl | assumption | (simp only [*]; done)) ?_
    refine go_aload_n dX9_putsIn_30 rfl ?_
    refine go_aload_n dX9_putsIn_31 rfl ?_
    refine go_gi dX9_putsIn_32 mf_9_120 (by decide) (by first | rfl | assumption | (simp only [*]; done)) ?_
    refine go_ifc (t := 42) dX9_putsIn_35 (by decide) c1_ne (fun h3 => ?_) (fun h3 => ?_)
    · refine go_aload_n dX9_putsIn_42 rfl ?_
      refine go_gr dX9_putsIn_43 mf_9_53 rfl (by first | rfl | assumption | (simp only [*]; done)) (by first | rfl | assumption | (simp only [*]; done)) ?_
      refine go_iload_n dX9_putsIn_46 rfl ?_
      refine go_ial dX9_putsIn_47 rfl (by first | rfl | assumption | (simp only [*]; done)) (by first | assumption | (rcases hk with z | z <;> simp_all [mm_u_sr, sr_same, sr_sr, up_s, up_o, sr_other])) ?_
      refine go_pi dX9_putsIn_48 mf_9_248 rfl rfl (by first | rfl | assumption | (simp only [*]; done)) ?_
      refine go_vret dX9_putsIn_51 rfl ?_ ?_
      · first | rfl | (simp [m_putsIn, mm_u_sr, sr_same, sr_sr, up_s, up_o, sr_other, *]; done) | ((try simp [mm_u_sr, sr_same, sr_sr, up_s, up_o, sr_other, -Int32.not_lt, -Int32.not_le] at *) <;> simp [m_putsIn, mm_u_sr, sr_same, sr_sr, up_s, up_o, sr_other, *, -Int32.not_lt, -Int32.not_le]; done) | (simp_all [m_putsIn, mm_u_sr, sr_same, sr_sr, up_s, up_o, sr_other]; done)
      · first | rfl | (simp [m_putsIn, mm_u_sr, sr_same, sr_sr, up_s, up_o, sr_other, *]; done) | ((try simp [mm_u_sr, sr_same, sr_sr, up_s, up_o, sr_other, -Int32.not_lt, -Int32.not_le] at *) <;> simp [m_putsIn, mm_u_sr, sr_same, sr_sr, up_s, up_o, sr_other, *, -Int32.not_lt, -Int32.not_le]; done) | (simp_all [m_putsIn, mm_u_sr, sr_same, sr_sr, up_s, up_o, sr_other]; done)
    · refine go_pu (st' := .int (0) :: _) dX9_putsIn_38 rfl ?_
      refine go_goto (t := 48) dX9_putsIn_39 (by decide) ?_
      refine go_pi dX9_putsIn_48 mf_9_248 rfl rfl (by first | rfl | assumption | (simp only [*]; done)) ?_
      refine go_vret dX9_putsIn_51 rfl ?_ ?_
      · first | rfl | (simp [m_putsIn, mm_u_sr, sr_same, sr_sr, up_s, up_o, sr_other, *]; done) | ((try simp [mm_u_sr, sr_same, sr_sr, up_s, up_o, sr_other, -Int32.not_lt, -Int32.not_le] at *) <;> simp [m_putsIn, mm_u_sr, sr_same, sr_sr, up_s, up_o, sr_other, *, -Int32.not_lt, -Int32.not_le]; done) | (simp_all [m_putsIn, mm_u_sr, sr_same, sr_sr, up_s, up_o, sr_other]; done)
      · first | rfl | (simp [m_putsIn, mm_u_sr, sr_same, sr_sr, up_s, up_o, sr_other, *]; done) | ((try simp [mm_u_sr, sr_same, sr_sr, up_s, up_o, sr_other, -Int32.not_lt, -Int32.not_le] at *) <;> simp [m_putsIn, mm_u_sr, sr_same, sr_sr, up_s, up_o, sr_other, *, -Int32.not_lt, -Int32.not_le]; done) | (simp_all [m_putsIn, mm_u_sr, sr_same, sr_sr, up_s, up_o, sr_other]; done)

set_option maxHeartbeats 1000000 in
theorem ok_X9_puts (d : Nat) (I : mI) (L : mL) (c : Int32) (hc : mm_in c 8 = true) (hk : I 108 1 = 0 ∨ mm_in (I 113 c.toNatClampNeg) 8 = true) : mm_Call (d + 3) 166 [.ref 108, .int c] (mm_sh, mm_R, I, L) none (mm_sh, mm_R, (sr I 108 (m_puts I c)), L) := by
  refine mm_Call.of_go (d := d + 2) me_166 ⟨Nat.le_of_ble_eq_true rfl, rfl⟩ ?_
  show mm_Go mm_cs0 _ _ _ _ _ _ [some (.ref _), some (.int _)] [] _ _ _
  refine go_aload_n dX9_puts_0 rfl ?_
  refine go_aload_n dX9_puts_1 rfl ?_
  refine go_gr dX9_puts_2 mf_9_32 rfl (by first | rfl | assumption | (simp only [*]; done)) (by first | rfl | assumption | (simp only [*]; done)) ?_
  refine go_iload_n dX9_puts_5 rfl ?_
  refine go_ial dX9_puts_6 rfl (by first | rfl | assumption | (simp only [*]; done)) hc ?_
  refine go_pi dX9_puts_7 mf_9_224 rfl rfl (by first | rfl | assumption | (simp only [*]; done)) ?_
  refine go_aload_n dX9_puts_10 rfl ?_
  refine go_aload_n dX9_puts_11 rfl ?_
  refine go_gr dX9_puts_12 mf_9_35 rfl (by first | rfl | assumption | (simp only [*]; done)) (by first | rfl | assumption | (simp only [*]; done)) ?_
  refine go_iload_n dX9_puts_15 rfl ?_
  refine go_ial dX9_puts_16 rfl (by first | rfl | assumption | (simp only [*]; done)) hc ?_
  refine go_pi dX9_puts_17 mf_9_227 rfl rfl (by first | rfl | assumption | (simp only [*]; done)) ?_
  refine go_aload_n dX9_puts_20 rfl ?_
  refine go_aload_n dX9_puts_21 rfl ?_
  refine go_gr dX9_puts_22 mf_9_38 rfl (by first | rfl | assumption | (simp only [*]; done)) (by first | rfl | assumption | (simp only [*]; done)) ?_
  refine go_iload_n dX9_puts_25 rfl ?_
  refine go_ial dX9_puts_26 rfl (by first | rfl | assumption | (simp only [*]; done)) hc ?_
  refine go_pi dX9_puts_27 mf_9_230 rfl rfl (by first | rfl | assumption | (simp only [*]; done)) ?_
  refine go_aload_n dX9_puts_30 rfl ?_
  refine go_aload_n dX9_puts_31 rfl ?_
  refine go_gr dX9_puts_32 mf_9_44 rfl (by first | rfl | assumption | (simp only [*]; done)) (by first | rfl | assumption | (simp only [*]; done)) ?_
  refine go_iload_n dX9_puts_35 rfl ?_
  refine go_ial dX9_puts_36 rfl (by first | rfl | assumption | (simp only [*]; done)) hc ?_
  refine go_pi dX9_puts_37 mf_9_233 rfl rfl (by first | rfl | assumption | (simp only [*]; done)) ?_
  refine go_aload_n dX9_puts_40 rfl ?_
  refine go_aload_n dX9_puts_41 rfl ?_
  refine go_gi dX9_puts_42 mf_9_170 (by decide) (by first | rfl | assumption | (simp only [*]; done)) ?_
  refine go_pi dX9_puts_45 mf_9_236 rfl rfl (by first | rfl | assumption | (simp only [*]; done)) ?_
  refine go_aload_n dX9_puts_48 rfl ?_
  refine go_aload_n dX9_puts_49 rfl ?_
  refine go_gr dX9_puts_50 mf_9_41 rfl (by first | rfl | assumption | (simp only [*]; done)) (by first | rfl | assumption | (simp only [*]; done)) ?_
  refine go_iload_n dX9_puts_53 rfl ?_
  refine go_ial dX9_puts_54 rfl (by first | rfl | assumption | (simp only [*]; done)) hc ?_
  refine go_call (kind := 1) (args := [.ref _, .int _]) (rest := _) dX9_puts_55 (Or.inr (Or.inl ⟨rfl, rfl⟩)) mk_9_239 (by decide) me_167 rfl rfl rfl rfl rfl (mm_rc_of (by first | rfl | assumption | (simp only [*]; done))) (ok_X9_putsIn _ _ _ _ (by simpa [mm_u_sr, sr_same, sr_sr, up_s, up_o, sr_other] using hk)) rfl ?_
  refine go_vret dX9_puts_58 rfl ?_ ?_
  · first | rfl | (simp [m_puts, mm_u_sr, sr_same, sr_sr, up_s, up_o, sr_other, *]; done) | ((try simp [mm_u_sr, sr_same, sr_sr, up_s, up_o, sr_other, -Int32.not_lt, -Int32.not_le] at *) <;> simp [m_puts, mm_u_sr, sr_same, sr_sr, up_s, up_o, sr_other, *, -Int32.not_lt, -Int32.not_le]; done) | (simp_all [m_puts, mm_u_sr, sr_same, sr_sr, up_s, up_o, sr_other]; done)
  · first | rfl | (simp [m_puts, mm_u_sr, sr_same, sr_sr, up_s, up_o, sr_other, *]; done) | ((try simp [mm_u_sr, sr_same, sr_sr, up_s, up_o, sr_other, -Int32.not_lt, -Int32.not_le] at *) <;> simp [m_puts, mm_u_sr, sr_same, sr_sr, up_s, up_o, sr_other, *, -Int32.not_lt, -Int32.not_le]; done) | (simp_all [m_puts, mm_u_sr, sr_same, sr_sr, up_s, up_o, sr_other]; done)

set_option maxHeartbeats 1000000 in
theorem lp_X9_in (d : Nat) (L : mL) : ∀ (n i : Nat) (I : mI), i + n = 999 → isKd (I 108 35) → mm_Go mm_cs0 (d + 5) 9 false (some .int) cX9_in 6 [some (.ref 108), some (.int (nI i))] [] (mm_sh, mm_R, I, L) (some (.int (m_inR (m_go n (I 108)) (i + m_cnt n (I 108))))) (mm_sh, mm_R, sr I 108 (m_go n (I 108)), L) := by
  intro n
  induction n with
  | zero =>
    intro i I hi hk
    obtain rfl : i = 999 := by omega
    have hc : (999 : Int32) ≤ nI 999 := by decide
    refine go_aload_n dX9_in_6 rfl ?_
    refine go_gi dX9_in_7 mf_9_257 (by decide) (by first | rfl | assumption | (simp only [*]; done)) ?_
    refine go_aload_n dX9_in_10 rfl ?_
    refine go_gi dX9_in_11 mf_9_7 (by decide) (by first | rfl | assumption | (simp only [*]; done)) ?_
    refine go_icc (t := 34) dX9_in_14 (by decide) c2_ge (fun h1 => ?_) (fun h1 => ?_)
    · have h1' := Int32.not_lt.mpr h1
      refine go_aload_n dX9_in_34 rfl ?_
      refine go_gi dX9_in_35 mf_9_257 (by decide) (by first | rfl | assumption | (simp only [*]; done)) ?_
      refine go_aload_n dX9_in_38 rfl ?_
      refine go_gi dX9_in_39 mf_9_7 (by decide) (by first | rfl | assumption | (simp only [*]; done)) ?_
      refine go_icc (t := 51) dX9_in_42 (by decide) c2_ge (fun h2 => ?_) (fun h2 => ?_)
      · have h2' := Int32.not_lt.mpr h2
        refine go_aload_n dX9_in_51 rfl ?_
        refine go_iload_n dX9_in_52 rfl ?_
        refine go_call (kind := 1) (args := [.ref _, .int _]) (rest := _) dX9_in_53 (Or.inr (Or.inl ⟨rfl, rfl⟩)) mk_9_287 (by decide) me_178 rfl rfl rfl rfl rfl (mm_rc_of (by first | rfl | assumption | (simp only [*]; done))) (ok_X9_withRope _ _ _ _) rfl ?_
        refine go_iret dX9_in_56 rfl ?_ ?_
        · first | rfl | (simp [m_go, m_cnt, m_inR, sr_id, *]; done) | (simp_all [m_go, m_cnt, m_inR, sr_id]; done)
        · first | rfl | (simp [m_go, m_cnt, m_inR, sr_id, *]; done) | (simp_all [m_go, m_cnt, m_inR, sr_id]; done)
      · have h2' := Int32.not_le.mp h2
        refine go_pu (st' := .int (999) :: _) dX9_in_45 rfl ?_
        refine go_goto (t := 56) dX9_in_48 (by decide) ?_
        refine go_iret dX9_in_56 rfl ?_ ?_
        · first | rfl | (simp [m_go, m_cnt, m_inR, sr_id, *]; done) | (simp_all [m_go, m_cnt, m_inR, sr_id]; done)
        · first | rfl | (simp [m_go, m_cnt, m_inR, sr_id, *]; done) | (simp_all [m_go, m_cnt, m_inR, sr_id]; done)
    · have h1' := Int32.not_le.mp h1
      refine go_iload_n dX9_in_17 rfl ?_
      refine go_pu (st' := .int (999) :: _) dX9_in_18 rfl ?_
      refine go_icc (t := 34) dX9_in_21 (by decide) c2_ge (fun h3 => ?_) (fun h3 => ?_)
      · have h3' := Int32.not_lt.mpr h3
        refine go_aload_n dX9_in_34 rfl ?_
        refine go_gi dX9_in_35 mf_9_257 (by decide) (by first | rfl | assumption | (simp only [*]; done)) ?_
        refine go_aload_n dX9_in_38 rfl ?_
        refine go_gi dX9_in_39 mf_9_7 (by decide) (by first | rfl | assumption | (simp only [*]; done)) ?_
        refine go_icc (t := 51) dX9_in_42 (by decide) c2_ge (fun h4 => ?_) (fun h4 => ?_)
        · have h4' := Int32.not_lt.mpr h4
          refine go_aload_n dX9_in_51 rfl ?_
          refine go_iload_n dX9_in_52 rfl ?_
          refine go_call (kind := 1) (args := [.ref _, .int _]) (rest := _) dX9_in_53 (Or.inr (Or.inl ⟨rfl, rfl⟩)) mk_9_287 (by decide) me_178 rfl rfl rfl rfl rfl (mm_rc_of (by first | rfl | assumption | (simp only [*]; done))) (ok_X9_withRope _ _ _ _) rfl ?_
          refine go_iret dX9_in_56 rfl ?_ ?_
          · first | rfl | (simp [m_go, m_cnt, m_inR, sr_id, *]; done) | (simp_all [m_go, m_cnt, m_inR, sr_id]; done)
          · first | rfl | (simp [m_go, m_cnt, m_inR, sr_id, *]; done) | (simp_all [m_go, m_cnt, m_inR, sr_id]; done)
        · have h4' := Int32.not_le.mp h4
          refine go_pu (st' := .int (999) :: _) dX9_in_45 rfl ?_
          refine go_goto (t := 56) dX9_in_48 (by decide) ?_
          refine go_iret dX9_in_56 rfl ?_ ?_
          · first | rfl | (simp [m_go, m_cnt, m_inR, sr_id, *]; done) | (simp_all [m_go, m_cnt, m_inR, sr_id]; done)
          · first | rfl | (simp [m_go, m_cnt, m_inR, sr_id, *]; done) | (simp_all [m_go, m_cnt, m_inR, sr_id]; done)
      · exact absurd hc h3
  | succ n ih =>
    intro i I hi hk
    have hc : ¬ (999 : Int32) ≤ nI i := nI_ge (a := i) (b := 999) (by omega) (by omega)
    refine go_aload_n dX9_in_6 rfl ?_
    refine go_gi dX9_in_7 mf_9_257 (by decide) (by first | rfl | assumption | (simp only [*]; done)) ?_
    refine go_aload_n dX9_in_10 rfl ?_
    refine go_gi dX9_in_11 mf_9_7 (by decide) (by first | rfl | assumption | (simp only [*]; done)) ?_
    refine go_icc (t := 34) dX9_in_14 (by decide) c2_ge (fun h1 => ?_) (fun h1 => ?_)
    · have h1' := Int32.not_lt.mpr h1
      refine go_aload_n dX9_in_34 rfl ?_
      refine go_gi dX9_in_35 mf_9_257 (by decide) (by first | rfl | assumption | (simp only [*]; done)) ?_
      refine go_aload_n dX9_in_38 rfl ?_
      refine go_gi dX9_in_39 mf_9_7 (by decide) (by first | rfl | assumption | (simp only [*]; done)) ?_
      refine go_icc (t := 51) dX9_in_42 (by decide) c2_ge (fun h2 => ?_) (fun h2 => ?_)
      · have h2' := Int32.not_lt.mpr h2
        refine go_aload_n dX9_in_51 rfl ?_
        refine go_iload_n dX9_in_52 rfl ?_
        refine go_call (kind := 1) (args := [.ref _, .int _]) (rest := _) dX9_in_53 (Or.inr (Or.inl ⟨rfl, rfl⟩)) mk_9_287 (by decide) me_178 rfl rfl rfl rfl rfl (mm_rc_of (by first | rfl | assumption | (simp only [*]; done))) (ok_X9_withRope _ _ _ _) rfl ?_
        refine go_iret dX9_in_56 rfl ?_ ?_
        · first | rfl | (simp [m_go, m_cnt, m_inR, sr_id, *]; done) | (simp_all [m_go, m_cnt, m_inR, sr_id]; done)
        · first | rfl | (simp [m_go, m_cnt, m_inR, sr_id, *]; done) | (simp_all [m_go, m_cnt, m_inR, sr_id]; done)
      · have h2' := Int32.not_le.mp h2
        refine go_pu (st' := .int (999) :: _) dX9_in_45 rfl ?_
        refine go_goto (t := 56) dX9_in_48 (by decide) ?_
        refine go_iret dX9_in_56 rfl ?_ ?_
        · first | rfl | (simp [m_go, m_cnt, m_inR, sr_id, *]; done) | (simp_all [m_go, m_cnt, m_inR, sr_id]; done)
        · first | rfl | (simp [m_go, m_cnt, m_inR, sr_id, *]; done) | (simp_all [m_go, m_cnt, m_inR, sr_id]; done)
    · have h1' := Int32.not_le.mp h1
      refine go_iload_n dX9_in_17 rfl ?_
      refine go_pu (st' := .int (999) :: _) dX9_in_18 rfl ?_
      refine go_icc (t := 34) dX9_in_21 (by decide) c2_ge (fun h3 => ?_) (fun h3 => ?_)
      · exact absurd h3 hc
      · have h3' := Int32.not_le.mp h3
        refine go_aload_n dX9_in_24 rfl ?_
        refine go_call (kind := 1) (args := [.ref _]) (rest := _) dX9_in_25 (Or.inr (Or.inl ⟨rfl, rfl⟩)) mk_9_284 (by decide) me_177 rfl rfl rfl rfl rfl (mm_rc_of (by first | rfl | assumption | (simp only [*]; done))) (ok_X9_second _ _ _ hk) rfl ?_
        refine go_iinc (v := (1)) (ls' := [some (.ref _), some (.int _)]) dX9_in_28 rfl (by decide) rfl ?_
        refine go_goto (t := 6) dX9_in_31 (by decide) ?_
        rw [nI_1]
        have hz := ih (i + 1) (sr I 108 (m_sec (I 108))) (by omega) (by rw [sr_same, m_sec_k]; exact hk)
        rw [sr_same, sr_sr, show i + 1 + m_cnt n (m_sec (I 108)) = i + (m_cnt n (m_sec (I 108)) + 1) by omega] at hz
        simpa [m_go, m_cnt, h1'] using hz

set_option maxHeartbeats 1000000 in
theorem ok_X9_in (d : Nat) (I : mI) (L : mL) (hk : isKd (I 108 35)) : mm_Call (d + 6) 179 [.ref 108] (mm_sh, mm_R, I, L) (some (.int (m_in (I 108)))) (mm_sh, mm_R, (sr I 108 (m_inM (I 108))), L) := by
  refine mm_Call.of_go (d := d + 5) me_179 ⟨Nat.le_of_ble_eq_true rfl, rfl⟩ ?_
  show mm_Go mm_cs0 _ _ _ _ _ _ [some (.ref _), none] [] _ _ _
  refine go_aload_n dX9_in_0 rfl ?_
  refine go_call (kind := 1) (args := [.ref _]) (rest := _) dX9_in_1 (Or.inr (Or.inl ⟨rfl, rfl⟩)) mk_9_281 (by decide) me_173 rfl rfl rfl rfl rfl (mm_rc_of (by first | rfl | assumption | (simp only [*]; done))) (ok_X9_starts _ _ _) rfl ?_
  refine go_pu (st' := .int (0) :: _) dX9_in_4 rfl ?_
  refine go_istore_n (ls' := [some (.ref _), some (.int _)]) dX9_in_5 rfl (Nat.le_of_ble_eq_true rfl) ?_
  have hz := lp_X9_in d L 999 0 (sr I 108 (m_starts (I 108))) rfl (by rw [sr_same]; exact hk)
  rw [sr_same, sr_sr, Nat.zero_add] at hz
  exact hz
