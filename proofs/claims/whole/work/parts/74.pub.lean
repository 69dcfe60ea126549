/-! PUBLIC METHODS: behind, wall -/
section P74
variable {I C J : pI} {L : pL} {N S : Nat}

/-- where child c is behind n seconds -/
def hB (I : pI) (c n : Nat) : hS := h_go (I 108 6) (I 108 3) (q_st I c) (k_puff (I 110 c)) (q_ri I c) (I 108 2) n (h_0 (I 114 c) (I 108 5))
/-- where he is as he falls first -/
def y_wall (rl up st pf rk w : Int32) : Nat → hS → Int32
  | 0, _ => -1
  | n + 1, s => if s.1 < w then (if 0 < (h_s rl up st pf rk s).2.2.2.2 then (h_s rl up st pf rk s).1 else y_wall rl up st pf rk w n (h_s rl up st pf rk s)) else -1
def hW (I : pI) (c : Nat) : Int32 := y_wall (I 108 6) (I 108 3) (q_st I c) (k_puff (I 110 c)) (q_ri I c) (I 108 2) 999 (h_0 (I 114 c) (I 108 5))
theorem r_sec_14 (ρ : mRow) (h : ρ 13 = 0) : r_sec ρ 14 = (if r_sec ρ 13 = 0 then ρ 14 else ρ 9) ∧ (r_sec ρ 13 = 0 ∨ (r_sec ρ 13 = 1 ∧ r_sec ρ 9 = ρ 9)) := by
  unfold r_sec
  by_cases h1 : 0 < ρ 12
  · rw [if_pos h1]
    have e : r_lie ρ 13 = 0 := by by_cases z : ρ 2 = 0 <;> simp [r_lie, upd, h, z]
    have e2 : r_lie ρ 14 = ρ 14 := by by_cases z : ρ 2 = 0 <;> simp [r_lie, upd, z]
    rw [e, e2, if_pos rfl]
    exact ⟨rfl, Or.inl rfl⟩
  · rw [if_neg h1]
    split
    · have e : ∀ x, r_hop (upd ρ 11 x) 0 13 = 0 := fun x => by unfold r_hop; simp [upd, h]
      have e2 : ∀ x, r_hop (upd ρ 11 x) 0 14 = ρ 14 := fun x => by unfold r_hop; simp [upd]
      rw [e, e2, if_pos rfl]
      exact ⟨rfl, Or.inl rfl⟩
    · have e : ∀ x y, r_hop (upd (upd ρ 11 x) 11 y) 1 13 = 1 := fun x y => by unfold r_hop; simp [upd, h]
      have e2 : ∀ x y, r_hop (upd (upd ρ 11 x) 11 y) 1 14 = ρ 9 := fun x y => by unfold r_hop; simp [upd, h]
      have e3 : ∀ x y, r_hop (upd (upd ρ 11 x) 11 y) 1 9 = ρ 9 := fun x y => by unfold r_hop; simp [upd, h]
      rw [e, e2, e3, if_neg (by decide)]
      exact ⟨rfl, Or.inr ⟨rfl, rfl⟩⟩
theorem r_sec_14k (ρ : mRow) (h : ¬ ρ 13 = 0) : r_sec ρ 14 = ρ 14 ∧ (r_sec ρ 13 = ρ 13 ∨ r_sec ρ 13 = ρ 13 + 1) := by
  unfold r_sec
  by_cases h1 : 0 < ρ 12
  · rw [if_pos h1]
    by_cases z : ρ 2 = 0 <;> simp [r_lie, upd, z]
  · rw [if_neg h1]
    unfold r_hop
    repeat' split
    all_goals simp_all [upd]
theorem r_go_14k (n : Nat) : ∀ (ρ : mRow) (k : Nat), ρ 13 = nI k → 0 < k → k + n ≤ 2000 → r_go n ρ 14 = ρ 14 := by
  induction n with
  | zero => intro ρ k _ _ _; rfl
  | succ n ih =>
    intro ρ k h h0 hk
    unfold r_go
    split
    · have hne : ¬ ρ 13 = 0 := by
        rw [h, ← nI_0, nI_eq (by omega) (by omega)]; omega
      obtain ⟨a, b⟩ := r_sec_14k ρ hne
      rcases b with b | b
      · rw [ih (r_sec ρ) k (by rw [b, h]) h0 (by omega), a]
      · rw [ih (r_sec ρ) (k + 1) (by rw [b, h, nI_1]) (by omega) (by omega), a]
    · rfl
theorem r_go_14 (n : Nat) (hn : n ≤ 999) : ∀ ρ : mRow, wi (ρ 10) 0 60 → wi (ρ 7) 0 5 → (ρ 2 = 0 ∨ ρ 2 = 1) → ρ 13 = 0 → ρ 14 = -1 → r_go n ρ 14 = y_wall (ρ 2) (ρ 4) (ρ 6) (ρ 7) (ρ 8) (ρ 3) n (r_t ρ) := by
  induction n with
  | zero => intro ρ _ _ _ _ h; exact h
  | succ n ih =>
    intro ρ hb hp hr h13 h14
    unfold r_go y_wall
    have e := r_sec_h hb hp hr
    by_cases z : ρ 9 < ρ 3
    · rw [if_pos z, if_pos (show (r_t ρ).1 < ρ 3 from z), ← e]
      obtain ⟨a, b⟩ := r_sec_14 ρ h13
      have e13 : (r_t (r_sec ρ)).2.2.2.2 = r_sec ρ 13 := rfl
      have e9 : (r_t (r_sec ρ)).1 = r_sec ρ 9 := rfl
      rw [e13, e9]
      rcases b with b | ⟨b, b9⟩
      · rw [b, if_neg (by decide)]
        rw [b, if_pos rfl, h14] at a
        rw [ih (by omega) (r_sec ρ) (by
          have := h_s_b (rl := ρ 2) (up := ρ 4) (st := ρ 6) (rk := ρ 8) (s := r_t ρ) hb hp
          rw [← e] at this
          exact this) (by rw [r_sec_p ρ (by omega)]; exact hp) (by rw [r_sec_p ρ (by omega)]; exact hr) b a, r_sec_p ρ (j := 2) (by omega), r_sec_p ρ (j := 4) (by omega), r_sec_p ρ (j := 6) (by omega), r_sec_p ρ (j := 7) (by omega), r_sec_p ρ (j := 8) (by omega), r_sec_p ρ (j := 3) (by omega)]
      · rw [b, if_neg (by decide)] at a
        rw [b, if_pos (by decide), b9, r_go_14k n (r_sec ρ) 1 b (by omega) (by omega), a]
    · rw [if_neg z, if_neg (show ¬ (r_t ρ).1 < ρ 3 from z)]
      exact h14
theorem ct_goToWay (d : Nat) (hb : bR I N S) {c : Nat} (hc : c < 8) {K : pI} (hK : bgn I c K) {n : Int32} (h0 : 0 ≤ n) (h9 : n ≤ 999) : cP (d + 3) 30 [.ref 62, .int n] (mm_sh, mm_R, K, L) (pX none L (fun K2 => sc I K2 ∧ r_t (K2 62) = hB I c n.toNatClampNeg ∧ (n = 999 → K2 62 14 = hW I c))) := by
  obtain ⟨g1, g2, g3, g4, g5, g6, g7, g8, g9, g10, g11, g12⟩ := hK
  have e := nI_cl h0
  have hb10 : wi (K 62 10) 0 60 := by
    have : K 62 10 = I 108 5 := congrArg (fun s : hS => s.2.1) g9
    rw [this]; exact hb.1.2.2.2.2.2.2.2.1
  have hp7 : wi (K 62 7) 0 5 := by rw [g7]; exact puff_wi (isKd_wi (hb.k hc).1)
  have hr2 : K 62 2 = 0 ∨ K 62 2 = 1 := by rw [g3]; exact hb.rl
  have h := ok_X4_goToWay d K L 62 isRa_62.1 n.toNatClampNeg (cl_lt n)
  rw [e] at h
  refine cP.of_x h rfl ⟨g1.e62 fun k a _ => sr_other _ _ a, ?_, fun h999 => ?_⟩
  · rw [sr_same, (r_go_h _ _ hb10 hp7 hr2).1, g3, g4, g5, g6, g7, g8, g9]
    rfl
  · rw [sr_same, show n.toNatClampNeg = 999 by rw [h999]; decide, r_go_14 999 (Nat.le_refl _) _ hb10 hp7 hr2 (congrArg (fun s : hS => s.2.2.2.2) g9) g10, g3, g4, g5, g6, g7, g8, g9]
    rfl
def w_bh (N : Nat) (c n w : Int32) : Int32 := if ¬ (0 ≤ c ∧ c < nI N) then -1 else if w < 0 ∨ 4 < w then -5 else if n < 0 ∨ 999 < n then -6 else 0
theorem w_bh_w (N : Nat) (c n w : Int32) : w_bh N c n w = 0 ∨ isW (w_bh N c n w) := by unfold w_bh; (repeat' split) <;> first | exact Or.inl rfl | (right; unfold isW; decide)
def q_bh (s : hS) (w : Int32) : Int32 := if w = 0 then s.1 else if w = 1 then s.2.1 else if w = 2 then s.2.2.1 else if w = 3 then s.2.2.2.1 else s.2.2.2.2
theorem t_at {s : hS} {ρ : mRow} (h : r_t ρ = s) : ρ 9 = s.1 ∧ ρ 10 = s.2.1 ∧ ρ 11 = s.2.2.1 ∧ ρ 12 = s.2.2.2.1 ∧ ρ 13 = s.2.2.2.2 := by subst h; exact ⟨rfl, rfl, rfl, rfl, rfl⟩
theorem m_at {s : hS} {ρ : mRow} (h : m_t ρ = s) : ρ 42 = s.1 ∧ ρ 43 = s.2.1 ∧ ρ 44 = s.2.2.1 ∧ ρ 45 = s.2.2.2.1 ∧ ρ 46 = s.2.2.2.2 := by subst h; exact ⟨rfl, rfl, rfl, rfl, rfl⟩

set_option maxHeartbeats 400000 in
theorem cl_behind (d : Nat) (hb : bR I N S) {c n w : Int32} : cP (d + 8) 77 [.ref 0, .int c, .int n, .int w] (mm_sh, mm_R, I, L) (pX (some (.int (vq (w_bh N c n w) (q_bh (hB I c.toNatClampNeg n.toNatClampNeg) w)))) L (sc (rI I (w_bh N c n w)))) := by
  have hs := sc.rf I
  have e11 : I 1 1 = nI N := hb.c11 hs
  have e13 : I 1 3 = nI S := hb.c13 hs
  refine cP.of_gP (d := d + 7) me_77 ⟨Nat.le_of_ble_eq_true rfl, rfl⟩ ?_
  show gP mm_cs0 _ _ _ _ _ _ [some (.ref _), some (.int _), some (.int _), some (.int _)] [] _ _
  refine gp_aload_n dX8_behind_0 rfl ?_
  refine gp_gr dX8_behind_1 mf_8_10 rfl (by first | rfl | assumption | (simp only [*]; done)) (by first | rfl | assumption | (simp only [*]; done)) ?_
  refine gp_iload_n dX8_behind_4 rfl ?_
  refine gp_call (kind := 1) (args := [.ref _, .int _]) (rest := _) dX8_behind_5 (Or.inr (Or.inl ⟨rfl, rfl⟩)) mk_8_126 (by decide) me_3 rfl rfl rfl rfl rfl (mm_rc_of (by first | rfl | assumption | (simp only [*]; done))) (ok_X1_hasChild _ _ _ _ rfl _) rfl ?_
  refine gp_ifc (t := 17) dX8_behind_8 (by decide) c1_ne (fun h1 => ?_) (fun h1 => ?_)
  · (try simp only [bi_0, bi_1, Classical.not_not, e11, e13] at h1)
    refine gp_iload_n dX8_behind_17 rfl ?_
    refine gp_ifc (t := 26) dX8_behind_18 (by decide) c1_lt (fun h2 => ?_) (fun h2 => ?_)
    · have h2' := Int32.not_le.mpr h2
      (try simp only [bi_0, bi_1, Classical.not_not, e11, e13] at h2)
      refine gp_aload_n dX8_behind_26 rfl ?_
      refine gp_pu (st' := .int (-5) :: _) dX8_behind_27 rfl ?_
      refine gp_call (kind := 1) (args := [.ref _, .int _]) (rest := _) dX8_behind_29 (Or.inr (Or.inl ⟨rfl, rfl⟩)) mk_8_79 (by decide) me_100 rfl rfl rfl rfl rfl (mm_rc_of (by first | rfl | assumption | (simp only [*]; done))) (ok_X8_refuse _ _ _ _) rfl ?_
      refine gp_iret dX8_behind_32 rfl ?_
      (refine cNo ?zqa ?zqc; (case zqa => (first | ((simp [w_bh, *]; done)) | (exfalso; first | contradiction | (simp_all; done)))); (case zqc => (unfold isW; decide)))
    · have h2' := Int32.not_lt.mp h2
      (try simp only [bi_0, bi_1, Classical.not_not, e11, e13] at h2)
      refine gp_iload_n dX8_behind_21 rfl ?_
      refine gp_pu (st' := .int (4) :: _) dX8_behind_22 rfl ?_
      refine gp_icc (t := 33) dX8_behind_23 (by decide) c2_le (fun h3 => ?_) (fun h3 => ?_)
      · have h3' := Int32.not_lt.mpr h3
        (try simp only [bi_0, bi_1, Classical.not_not, e11, e13] at h3)
        have zq49 : ¬ 4 < w := Int32.not_lt.mpr (by assumption)
        refine gp_iload_n dX8_behind_33 rfl ?_
        refine gp_ifc (t := 44) dX8_behind_34 (by decide) c1_lt (fun h4 => ?_) (fun h4 => ?_)
        · have h4' := Int32.not_le.mpr h4
          (try simp only [bi_0, bi_1, Classical.not_not, e11, e13] at h4)
          refine gp_aload_n dX8_behind_44 rfl ?_
          refine gp_pu (st' := .int (-6) :: _) dX8_behind_45 rfl ?_
          refine gp_call (kind := 1) (args := [.ref _, .int _]) (rest := _) dX8_behind_47 (Or.inr (Or.inl ⟨rfl, rfl⟩)) mk_8_79 (by decide) me_100 rfl rfl rfl rfl rfl (mm_rc_of (by first | rfl | assumption | (simp only [*]; done))) (ok_X8_refuse _ _ _ _) rfl ?_
          refine gp_iret dX8_behind_50 rfl ?_
          (refine cNo ?zqa ?zqc; (case zqa => (first | ((simp [w_bh, *]; done)) | (exfalso; first | contradiction | (simp_all; done)))); (case zqc => (unfold isW; decide)))
        · have h4' := Int32.not_lt.mp h4
          (try simp only [bi_0, bi_1, Classical.not_not, e11, e13] at h4)
          refine gp_iload_n dX8_behind_37 rfl ?_
          refine gp_pu (st' := .int (999) :: _) dX8_behind_38 rfl ?_
          refine gp_icc (t := 51) dX8_behind_41 (by decide) c2_le (fun h5 => ?_) (fun h5 => ?_)
          · have h5' := Int32.not_lt.mpr h5
            (try simp only [bi_0, bi_1, Classical.not_not, e11, e13] at h5)
            refine gp_aload_n dX8_behind_51 rfl ?_
            refine gp_gr dX8_behind_52 mf_8_31 rfl (by first | rfl | assumption | (simp only [*]; done)) (by first | rfl | assumption | (simp only [*]; done)) ?_
            refine gp_aload_n dX8_behind_55 rfl ?_
            refine gp_gr dX8_behind_56 mf_8_10 rfl (by first | rfl | assumption | (simp only [*]; done)) (by first | rfl | assumption | (simp only [*]; done)) ?_
            refine gp_iload_n dX8_behind_59 rfl ?_
            refine gp_call (kind := 1) (args := [.ref _, .ref _, .int _]) (rest := _) dX8_behind_60 (Or.inr (Or.inl ⟨rfl, rfl⟩)) mk_8_167 (by decide) me_22 rfl rfl rfl rfl rfl (mm_rc_of (by first | rfl | assumption | (simp only [*]; done))) (ok_X4_take _ _ _ 62 1 _ isRa_62 isF_1 (by decide) (by rw [e11]; assumption) (i_n8 hb) (i_z2 hb)) rfl ?_
            refine gp_aload_n dX8_behind_63 rfl ?_
            refine gp_gr dX8_behind_64 mf_8_31 rfl (by first | rfl | assumption | (simp only [*]; done)) (by first | rfl | assumption | (simp only [*]; done)) ?_
            refine gp_aload_n dX8_behind_67 rfl ?_
            refine gp_gr dX8_behind_68 mf_8_10 rfl (by first | rfl | assumption | (simp only [*]; done)) (by first | rfl | assumption | (simp only [*]; done)) ?_
            refine gp_callX (kind := 1) (args := [.ref _, .ref _]) (rest := _) dX8_behind_71 (Or.inr (Or.inl ⟨rfl, rfl⟩)) mk_8_171 (by decide) me_23 rfl rfl rfl rfl rfl (mm_rc_of (by first | rfl | assumption | (simp only [*]; done))) (ct_begin _ _ hb hs (by assumption)) ?_
            intro K1 hK1
            refine gp_aload_n dX8_behind_74 rfl ?_
            refine gp_gr dX8_behind_75 mf_8_31 rfl (by first | rfl | assumption | (simp only [*]; done)) (by first | rfl | assumption | (simp only [*]; done)) ?_
            refine gp_iload_n dX8_behind_78 rfl ?_
            refine gp_callX (kind := 1) (args := [.ref _, .int _]) (rest := _) dX8_behind_79 (Or.inr (Or.inl ⟨rfl, rfl⟩)) mk_8_251 (by decide) me_30 rfl rfl rfl rfl rfl (mm_rc_of (by first | rfl | assumption | (simp only [*]; done))) (ct_goToWay _ hb (hb.cl (c := c) (by assumption)).2.1 hK1 (Int32.not_lt.mp (by assumption)) (by assumption)) ?_
            intro K2 hK2
            obtain ⟨zqa, zqb, zqc⟩ := hK2
            obtain ⟨zq1, zq2, zq3, zq4, zq5⟩ := t_at zqb
            refine gp_iload_n dX8_behind_82 rfl ?_
            rcases sb_4 (x := w) (by assumption) (by assumption) with hsw | hsw | hsw | hsw | hsw
            · refine gp_ts (t := 112) dX8_behind_83 (by rw [hsw]; rfl) (by decide) ?_
              refine gp_aload_n dX8_behind_112 rfl ?_
              refine gp_gr dX8_behind_113 mf_8_31 rfl (by first | rfl | assumption | (simp only [*]; done)) (by first | rfl | assumption | (simp only [*]; done)) ?_
              refine gp_giv dX8_behind_116 mf_8_254 (by decide) (by first | rfl | assumption | (simp only [*]; done)) (by first | exact zq1 | exact zq2 | exact zq3 | exact zq4 | exact zq5 | exact rfl) ?_
              refine gp_iret dX8_behind_119 rfl ?_
              first | (refine cOk ?zqa ?zqb zqa; (case zqa => (first | ((simp [w_bh, *]; done)) | (exfalso; first | contradiction | (simp_all; done)))); (case zqb => (first | ((simp [q_bh, hsw]; done)) | (exfalso; first | contradiction | (simp_all; done)))))
            · refine gp_ts (t := 120) dX8_behind_83 (by rw [hsw]; rfl) (by decide) ?_
              refine gp_aload_n dX8_behind_120 rfl ?_
              refine gp_gr dX8_behind_121 mf_8_31 rfl (by first | rfl | assumption | (simp only [*]; done)) (by first | rfl | assumption | (simp only [*]; done)) ?_
              refine gp_giv dX8_behind_124 mf_8_256 (by decide) (by first | rfl | assumption | (simp only [*]; done)) (by first | exact zq1 | exact zq2 | exact zq3 | exact zq4 | exact zq5 | exact rfl) ?_
              refine gp_iret dX8_behind_127 rfl ?_
              first | (refine cOk ?zqa ?zqb zqa; (case zqa => (first | ((simp [w_bh, *]; done)) | (exfalso; first | contradiction | (simp_all; done)))); (case zqb => (first | ((simp [q_bh, hsw]; done)) | (exfalso; first | contradiction | (simp_all; done)))))
            · refine gp_ts (t := 128) dX8_behind_83 (by rw [hsw]; rfl) (by decide) ?_
              refine gp_aload_n dX8_behind_128 rfl ?_
              refine gp_gr dX8_behind_129 mf_8_31 rfl (by first | rfl | assumption | (simp only [*]; done)) (by first | rfl | assumption | (simp only [*]; done)) ?_
              refine gp_giv dX8_behind_132 mf_8_259 (by decide) (by first | rfl | assumption | (simp only [*]; done)) (by first | exact zq1 | exact zq2 | exact zq3 | exact zq4 | exact zq5 | exact rfl) ?_
              refine gp_iret dX8_behind_135 rfl ?_
              first | (refine cOk ?zqa ?zqb zqa; (case zqa => (first | ((simp [w_bh, *]; done)) | (exfalso; first | contradiction | (simp_all; done)))); (case zqb => (first | ((simp [q_bh, hsw]; done)) | (exfalso; first | contradiction | (simp_all; done)))))
            · refine gp_ts (t := 136) dX8_behind_83 (by rw [hsw]; rfl) (by decide) ?_
              refine gp_aload_n dX8_behind_136 rfl ?_
              refine gp_gr dX8_behind_137 mf_8_31 rfl (by first | rfl | assumption | (simp only [*]; done)) (by first | rfl | assumption | (simp only [*]; done)) ?_
              refine gp_giv dX8_behind_140 mf_8_262 (by decide) (by first | rfl | assumption | (simp only [*]; done)) (by first | exact zq1 | exact zq2 | exact zq3 | exact zq4 | exact zq5 | exact rfl) ?_
              refine gp_iret dX8_behind_143 rfl ?_
              first | (refine cOk ?zqa ?zqb zqa; (case zqa => (first | ((simp [w_bh, *]; done)) | (exfalso; first | contradiction | (simp_all; done)))); (case zqb => (first | ((simp [q_bh, hsw]; done)) | (exfalso; first | contradiction | (simp_all; done)))))
            · refine gp_ts (t := 144) dX8_behind_83 (by rw [hsw]; rfl) (by decide) ?_
              refine gp_aload_n dX8_behind_144 rfl ?_
              refine gp_gr dX8_behind_145 mf_8_31 rfl (by first | rfl | assumption | (simp only [*]; done)) (by first | rfl | assumption | (simp only [*]; done)) ?_
              refine gp_giv dX8_behind_148 mf_8_265 (by decide) (by first | rfl | assumption | (simp only [*]; done)) (by first | exact zq1 | exact zq2 | exact zq3 | exact zq4 | exact zq5 | exact rfl) ?_
              refine gp_iret dX8_behind_151 rfl ?_
              first | (refine cOk ?zqa ?zqb zqa; (case zqa => (first | ((simp [w_bh, *]; done)) | (exfalso; first | contradiction | (simp_all; done)))); (case zqb => (first | ((simp [q_bh, hsw]; done)) | (exfalso; first | contradiction | (simp_all; done)))))
          · have h5' := Int32.not_le.mp h5
            (try simp only [bi_0, bi_1, Classical.not_not, e11, e13] at h5)
            refine gp_aload_n dX8_behind_44 rfl ?_
            refine gp_pu (st' := .int (-6) :: _) dX8_behind_45 rfl ?_
            refine gp_call (kind := 1) (args := [.ref _, .int _]) (rest := _) dX8_behind_47 (Or.inr (Or.inl ⟨rfl, rfl⟩)) mk_8_79 (by decide) me_100 rfl rfl rfl rfl rfl (mm_rc_of (by first | rfl | assumption | (simp only [*]; done))) (ok_X8_refuse _ _ _ _) rfl ?_
            refine gp_iret dX8_behind_50 rfl ?_
            (refine cNo ?zqa ?zqc; (case zqa => (first | ((simp [w_bh, *]; done)) | (exfalso; first | contradiction | (simp_all; done)))); (case zqc => (unfold isW; decide)))
      · have h3' := Int32.not_le.mp h3
        (try simp only [bi_0, bi_1, Classical.not_not, e11, e13] at h3)
        refine gp_aload_n dX8_behind_26 rfl ?_
        refine gp_pu (st' := .int (-5) :: _) dX8_behind_27 rfl ?_
        refine gp_call (kind := 1) (args := [.ref _, .int _]) (rest := _) dX8_behind_29 (Or.inr (Or.inl ⟨rfl, rfl⟩)) mk_8_79 (by decide) me_100 rfl rfl rfl rfl rfl (mm_rc_of (by first | rfl | assumption | (simp only [*]; done))) (ok_X8_refuse _ _ _ _) rfl ?_
        refine gp_iret dX8_behind_32 rfl ?_
        (refine cNo ?zqa ?zqc; (case zqa => (first | ((simp [w_bh, *]; done)) | (exfalso; first | contradiction | (simp_all; done)))); (case zqc => (unfold isW; decide)))
  · (try simp only [bi_0, bi_1, Classical.not_not, e11, e13] at h1)
    refine gp_aload_n dX8_behind_11 rfl ?_
    refine gp_pu (st' := .int (-1) :: _) dX8_behind_12 rfl ?_
    refine gp_call (kind := 1) (args := [.ref _, .int _]) (rest := _) dX8_behind_13 (Or.inr (Or.inl ⟨rfl, rfl⟩)) mk_8_79 (by decide) me_100 rfl rfl rfl rfl rfl (mm_rc_of (by first | rfl | assumption | (simp only [*]; done))) (ok_X8_refuse _ _ _ _) rfl ?_
    refine gp_iret dX8_behind_16 rfl ?_
    (refine cNo ?zqa ?zqc; (case zqa => (first | ((simp [w_bh, *]; done)) | (exfalso; first | contradiction | (simp_all; done)))); (case zqc => (unfold isW; decide)))

theorem m_bh (v : vN I N S) {c : Nat} {K : pI} (h : mR I C K) (hh : hop I K (I 110 c) (I 111 c) (I 112 c) (I 113 c) (I 114 c) (I 108 6) 0) (n : Nat) : m_t (m_go n (m_starts (K 108))) = hB I c n := by
  obtain ⟨p1, p2, p3⟩ := hop_st hh
  obtain ⟨h1, h2, h3, h4, h5, h6, h7⟩ := hh
  obtain ⟨q1, q2, q3⟩ := m_par (μ := K 108) (ν := m_starts (K 108)) (fun j hj => m_st_p _ (Or.inl hj))
  rw [(m_go_h n _).1, q1, q2, q3, m_st_p _ (j := 41) (by omega), m_st_p _ (j := 3) (by omega), m_st_p _ (j := 2) (by omega), m_st_t, p1, p2, p3, h4, h5, h.r (j := 3) (by omega), h.r (j := 2) (by omega), h.r (j := 5) (by omega)]
  rfl

set_option maxHeartbeats 400000 in
theorem lp_mbeh (d : Nat) {c n0 w : Int32} (N0 : Nat) (hN0 : N0 ≤ 999) (hn0 : n0 = nI N0) (Q : Option Value → mm_M → Prop) : ∀ (n i : Nat) (J : pI), i + n = N0 → isKd (J 108 35) → (∀ (x : Int32) (K : pI), K = sr J 108 (m_go n (J 108)) → gP mm_cs0 (d + 5) 9 false (some .int) cX9_behind 87 [some (.ref 108), some (.int c), some (.int n0), some (.int w), some (.int x)] [] (mm_sh, mm_R, K, L) Q) → gP mm_cs0 (d + 5) 9 false (some .int) cX9_behind 60 [some (.ref 108), some (.int c), some (.int n0), some (.int w), some (.int (nI i))] [] (mm_sh, mm_R, J, L) Q := by
  intro n
  induction n with
  | zero =>
    intro i J hi hkd hk
    obtain rfl : i = N0 := by omega
    have hc1 : n0 ≤ nI i := by rw [hn0]; exact Int32.le_refl _
    refine gp_iload dX9_behind_60 rfl ?_
    refine gp_iload_n dX9_behind_62 rfl ?_
    refine gp_icc (t := 87) dX9_behind_63 (by decide) c2_ge (fun h1 => ?_) (fun h1 => ?_)
    · have h1' := Int32.not_lt.mpr h1
      exact hk _ _ (sr_id J 108).symm
    · exact absurd hc1 h1
  | succ n ih =>
    intro i J hi hkd hk
    have hc1 : ¬ n0 ≤ nI i := by rw [hn0]; exact nI_ge (by omega) (by omega)
    refine gp_iload dX9_behind_60 rfl ?_
    refine gp_iload_n dX9_behind_62 rfl ?_
    refine gp_icc (t := 87) dX9_behind_63 (by decide) c2_ge (fun h1 => ?_) (fun h1 => ?_)
    · exact absurd h1 hc1
    · have h1' := Int32.not_le.mp h1
      refine gp_aload_n dX9_behind_66 rfl ?_
      refine gp_giv dX9_behind_67 mf_9_257 (by decide) (by first | rfl | assumption | (simp only [*]; done)) (by first | exact rfl) ?_
      refine gp_aload_n dX9_behind_70 rfl ?_
      refine gp_giv dX9_behind_71 mf_9_7 (by decide) (by first | rfl | assumption | (simp only [*]; done)) (by first | exact rfl) ?_
      refine gp_icc (t := 87) dX9_behind_74 (by decide) c2_ge (fun h2 => ?_) (fun h2 => ?_)
      · have h2' := Int32.not_lt.mpr h2
        (refine hk _ _ ?_
         rw [show m_go (n + 1) (J 108) = J 108 from if_neg (Int32.not_lt.mpr h2), sr_id])
      · have h2' := Int32.not_le.mp h2
        refine gp_aload_n dX9_behind_77 rfl ?_
        refine gp_call (kind := 1) (args := [.ref _]) (rest := _) dX9_behind_78 (Or.inr (Or.inl ⟨rfl, rfl⟩)) mk_9_284 (by decide) me_177 rfl rfl rfl rfl rfl (mm_rc_of (by first | rfl | assumption | (simp only [*]; done))) (ok_X9_second _ _ _ hkd) rfl ?_
        refine gp_iinc (v := (1)) (ls' := [some (.ref _), some (.int _), some (.int _), some (.int _), some (.int _)]) dX9_behind_81 rfl (by decide) rfl ?_
        refine gp_goto (t := 60) dX9_behind_84 (by decide) ?_
        (rw [nI_1]
         refine ih (i + 1) _ (by omega) (by rw [sr_same, m_sec_p _ (by omega)]; exact hkd) ?_
         intro x K hK
         refine hk x K ?_
         rw [hK, sr_same, sr_sr, show m_go (n + 1) (J 108) = m_go n (m_sec (J 108)) from if_pos h2'])

set_option maxHeartbeats 400000 in
theorem ml_behind (d : Nat) (v : vN I N S) (hs : mR I C J) {c n w : Int32} : cP (d + 9) 185 [.ref 108, .int c, .int n, .int w] (mm_sh, mm_R, J, L) (pX (some (.int (vq (w_bh N c n w) (q_bh (hB I c.toNatClampNeg n.toNatClampNeg) w)))) L (mR (rM I (w_bh N c n w)) C)) := by
  have m0 : J 108 0 = nI N := (hs.r (by decide)).trans v.2.2.1
  have m1 : J 108 1 = nI S := (hs.r (by decide)).trans v.2.2.2.1
  refine cP.of_gP (d := d + 8) me_185 ⟨Nat.le_of_ble_eq_true rfl, rfl⟩ ?_
  show gP mm_cs0 _ _ _ _ _ _ [some (.ref _), some (.int _), some (.int _), some (.int _), none] [] _ _
  refine gp_aload_n dX9_behind_0 rfl ?_
  refine gp_iload_n dX9_behind_1 rfl ?_
  refine gp_call (kind := 1) (args := [.ref _, .int _]) (rest := _) dX9_behind_2 (Or.inr (Or.inl ⟨rfl, rfl⟩)) mk_9_131 (by decide) me_130 rfl rfl rfl rfl rfl (mm_rc_of (by first | rfl | assumption | (simp only [*]; done))) (ok_X9_isChild _ _ _ _) rfl ?_
  refine gp_ifc (t := 14) dX9_behind_5 (by decide) c1_ne (fun h1 => ?_) (fun h1 => ?_)
  · (try simp only [bi_0, bi_1, Classical.not_not, m0, m1] at h1)
    have zqw9 := (by assumption : 0 ≤ c ∧ c < nI N)
    refine gp_iload_n dX9_behind_14 rfl ?_
    refine gp_ifc (t := 23) dX9_behind_15 (by decide) c1_lt (fun h2 => ?_) (fun h2 => ?_)
    · have h2' := Int32.not_le.mpr h2
      (try simp only [bi_0, bi_1, Classical.not_not, m0, m1] at h2)
      refine gp_aload_n dX9_behind_23 rfl ?_
      refine gp_pu (st' := .int (-5) :: _) dX9_behind_24 rfl ?_
      refine gp_call (kind := 1) (args := [.ref _, .int _]) (rest := _) dX9_behind_26 (Or.inr (Or.inl ⟨rfl, rfl⟩)) mk_9_127 (by decide) me_127 rfl rfl rfl rfl rfl (mm_rc_of (by first | rfl | assumption | (simp only [*]; done))) (ok_X9_no _ _ _ _ (by decide)) rfl ?_
      refine gp_iret dX9_behind_29 rfl ?_
      (refine mNo ?zqa ?zqc hs; (case zqa => (first | ((simp [w_bh, *]; done)) | (exfalso; first | contradiction | (simp_all; done)))); (case zqc => (unfold isW; decide)))
    · have h2' := Int32.not_lt.mp h2
      (try simp only [bi_0, bi_1, Classical.not_not, m0, m1] at h2)
      refine gp_iload_n dX9_behind_18 rfl ?_
      refine gp_pu (st' := .int (4) :: _) dX9_behind_19 rfl ?_
      refine gp_icc (t := 30) dX9_behind_20 (by decide) c2_le (fun h3 => ?_) (fun h3 => ?_)
      · have h3' := Int32.not_lt.mpr h3
        (try simp only [bi_0, bi_1, Classical.not_not, m0, m1] at h3)
        refine gp_iload_n dX9_behind_30 rfl ?_
        refine gp_ifc (t := 41) dX9_behind_31 (by decide) c1_lt (fun h4 => ?_) (fun h4 => ?_)
        · have h4' := Int32.not_le.mpr h4
          (try simp only [bi_0, bi_1, Classical.not_not, m0, m1] at h4)
          refine gp_aload_n dX9_behind_41 rfl ?_
          refine gp_pu (st' := .int (-6) :: _) dX9_behind_42 rfl ?_
          refine gp_call (kind := 1) (args := [.ref _, .int _]) (rest := _) dX9_behind_44 (Or.inr (Or.inl ⟨rfl, rfl⟩)) mk_9_127 (by decide) me_127 rfl rfl rfl rfl rfl (mm_rc_of (by first | rfl | assumption | (simp only [*]; done))) (ok_X9_no _ _ _ _ (by decide)) rfl ?_
          refine gp_iret dX9_behind_47 rfl ?_
          (refine mNo ?zqa ?zqc hs; (case zqa => (first | ((simp [w_bh, *]; done)) | (exfalso; first | contradiction | (simp_all; done)))); (case zqc => (unfold isW; decide)))
        · have h4' := Int32.not_lt.mp h4
          (try simp only [bi_0, bi_1, Classical.not_not, m0, m1] at h4)
          refine gp_iload_n dX9_behind_34 rfl ?_
          refine gp_pu (st' := .int (999) :: _) dX9_behind_35 rfl ?_
          refine gp_icc (t := 48) dX9_behind_38 (by decide) c2_le (fun h5 => ?_) (fun h5 => ?_)
          · have h5' := Int32.not_lt.mpr h5
            (try simp only [bi_0, bi_1, Classical.not_not, m0, m1] at h5)
            refine gp_aload_n dX9_behind_48 rfl ?_
            refine gp_iload_n dX9_behind_49 rfl ?_
            refine gp_callX (kind := 1) (args := [.ref _, .int _]) (rest := _) dX9_behind_50 (Or.inr (Or.inl ⟨rfl, rfl⟩)) mk_9_134 (by decide) me_166 rfl rfl rfl rfl rfl (mm_rc_of (by first | rfl | assumption | (simp only [*]; done))) (mt_puts _ _ v hs (by assumption)) ?_
            intro K1 hK1
            have zqkd : isKd (K1 108 35) := by rw [hK1.2.1.1]; exact isKd_wi (v.k (v.cl (c := c) (by assumption)).2.1).1
            refine gp_aload_n dX9_behind_53 rfl ?_
            refine gp_call (kind := 1) (args := [.ref _]) (rest := _) dX9_behind_54 (Or.inr (Or.inl ⟨rfl, rfl⟩)) mk_9_281 (by decide) me_173 rfl rfl rfl rfl rfl (mm_rc_of (by first | rfl | assumption | (simp only [*]; done))) (ok_X9_starts _ _ _) rfl ?_
            refine gp_pu (st' := .int (0) :: _) dX9_behind_57 rfl ?_
            refine gp_istore (ls' := [some (.ref _), some (.int _), some (.int _), some (.int _), some (.int _)]) dX9_behind_58 rfl (Nat.le_of_ble_eq_true rfl) ?_
            (have zqn := nI_cl (x := n) (Int32.not_lt.mp (by assumption))
             have zqn9 : n.toNatClampNeg ≤ 999 := by
              have a := (by assumption : n ≤ 999)
              rw [ti_le, ti_999] at a
              unfold Int32.toNatClampNeg
              omega
             refine lp_mbeh (d + 3) n.toNatClampNeg zqn9 zqn.symm _ n.toNatClampNeg 0 _ (by omega) (by rw [sr_same, m_st_p _ (by omega)]; exact zqkd) ?_
             intro x K hK
             have zqt : m_t (K 108) = hB I c.toNatClampNeg n.toNatClampNeg := by rw [hK, sr_same, sr_same]; exact m_bh v hK1.1 hK1.2.1 _
             have zqh : mR I C K := by
              rw [hK, sr_sr, sr_same]
              exact hK1.1.row fun j hj => by rw [(m_go_h _ _).2.2 j (by omega), m_st_p _ (by omega)]
             obtain ⟨zq1, zq2, zq3, zq4, zq5⟩ := m_at zqt
             refine gp_iload_n dX9_behind_87 rfl ?_
             refine gp_ifc (t := 98) dX9_behind_88 (by decide) c1_ne (fun h31 => ?_) (fun h31 => ?_)
             · (try simp only [bi_0, bi_1, Classical.not_not, m0, m1] at h31)
               refine gp_iload_n dX9_behind_98 rfl ?_
               refine gp_pu (st' := .int (1) :: _) dX9_behind_99 rfl ?_
               refine gp_icc (t := 110) dX9_behind_100 (by decide) c2_ne (fun h32 => ?_) (fun h32 => ?_)
               · (try simp only [bi_0, bi_1, Classical.not_not, m0, m1] at h32)
                 refine gp_iload_n dX9_behind_110 rfl ?_
                 refine gp_pu (st' := .int (2) :: _) dX9_behind_111 rfl ?_
                 refine gp_icc (t := 122) dX9_behind_112 (by decide) c2_ne (fun h33 => ?_) (fun h33 => ?_)
                 · (try simp only [bi_0, bi_1, Classical.not_not, m0, m1] at h33)
                   refine gp_iload_n dX9_behind_122 rfl ?_
                   refine gp_pu (st' := .int (3) :: _) dX9_behind_123 rfl ?_
                   refine gp_icc (t := 134) dX9_behind_124 (by decide) c2_ne (fun h34 => ?_) (fun h34 => ?_)
                   · (try simp only [bi_0, bi_1, Classical.not_not, m0, m1] at h34)
                     refine gp_aload_n dX9_behind_134 rfl ?_
                     refine gp_giv dX9_behind_135 mf_9_266 (by decide) (by first | rfl | assumption | (simp only [*]; done)) (by first | exact zq1 | exact zq2 | exact zq3 | exact zq4 | exact zq5 | exact rfl) ?_
                     refine gp_iret dX9_behind_138 rfl ?_
                     (refine mOk ?zqa ?zqb zqh; (case zqa => (first | ((simp [w_bh, *]; done)) | (exfalso; first | contradiction | (simp_all; done)))); (case zqb => (first | ((simp [q_bh, *]; done)) | (exfalso; first | contradiction | (simp_all; done)))))
                   · (try simp only [bi_0, bi_1, Classical.not_not, m0, m1] at h34)
                     refine gp_aload_n dX9_behind_127 rfl ?_
                     refine gp_giv dX9_behind_128 mf_9_263 (by decide) (by first | rfl | assumption | (simp only [*]; done)) (by first | exact zq1 | exact zq2 | exact zq3 | exact zq4 | exact zq5 | exact rfl) ?_
                     refine gp_goto (t := 138) dX9_behind_131 (by decide) ?_
                     refine gp_iret dX9_behind_138 rfl ?_
                     (refine mOk ?zqa ?zqb zqh; (case zqa => (first | ((simp [w_bh, *]; done)) | (exfalso; first | contradiction | (simp_all; done)))); (case zqb => (first | ((simp [q_bh, *]; done)) | (exfalso; first | contradiction | (simp_all; done)))))
                 · (try simp only [bi_0, bi_1, Classical.not_not, m0, m1] at h33)
                   refine gp_aload_n dX9_behind_115 rfl ?_
                   refine gp_giv dX9_behind_116 mf_9_260 (by decide) (by first | rfl | assumption | (simp only [*]; done)) (by first | exact zq1 | exact zq2 | exact zq3 | exact zq4 | exact zq5 | exact rfl) ?_
                   refine gp_goto (t := 138) dX9_behind_119 (by decide) ?_
                   refine gp_iret dX9_behind_138 rfl ?_
                   (refine mOk ?zqa ?zqb zqh; (case zqa => (first | ((simp [w_bh, *]; done)) | (exfalso; first | contradiction | (simp_all; done)))); (case zqb => (first | ((simp [q_bh, *]; done)) | (exfalso; first | contradiction | (simp_all; done)))))
               · (try simp only [bi_0, bi_1, Classical.not_not, m0, m1] at h32)
                 refine gp_aload_n dX9_behind_103 rfl ?_
                 refine gp_giv dX9_behind_104 mf_9_254 (by decide) (by first | rfl | assumption | (simp only [*]; done)) (by first | exact zq1 | exact zq2 | exact zq3 | exact zq4 | exact zq5 | exact rfl) ?_
                 refine gp_goto (t := 138) dX9_behind_107 (by decide) ?_
                 refine gp_iret dX9_behind_138 rfl ?_
                 (refine mOk ?zqa ?zqb zqh; (case zqa => (first | ((simp [w_bh, *]; done)) | (exfalso; first | contradiction | (simp_all; done)))); (case zqb => (first | ((simp [q_bh, *]; done)) | (exfalso; first | contradiction | (simp_all; done)))))
             · (try simp only [bi_0, bi_1, Classical.not_not, m0, m1] at h31)
               refine gp_aload_n dX9_behind_91 rfl ?_
               refine gp_giv dX9_behind_92 mf_9_257 (by decide) (by first | rfl | assumption | (simp only [*]; done)) (by first | exact zq1 | exact zq2 | exact zq3 | exact zq4 | exact zq5 | exact rfl) ?_
               refine gp_goto (t := 138) dX9_behind_95 (by decide) ?_
               refine gp_iret dX9_behind_138 rfl ?_
               (refine mOk ?zqa ?zqb zqh; (case zqa => (first | ((simp [w_bh, *]; done)) | (exfalso; first | contradiction | (simp_all; done)))); (case zqb => (first | ((simp [q_bh, *]; done)) | (exfalso; first | contradiction | (simp_all; done))))))
          · have h5' := Int32.not_le.mp h5
            (try simp only [bi_0, bi_1, Classical.not_not, m0, m1] at h5)
            refine gp_aload_n dX9_behind_41 rfl ?_
            refine gp_pu (st' := .int (-6) :: _) dX9_behind_42 rfl ?_
            refine gp_call (kind := 1) (args := [.ref _, .int _]) (rest := _) dX9_behind_44 (Or.inr (Or.inl ⟨rfl, rfl⟩)) mk_9_127 (by decide) me_127 rfl rfl rfl rfl rfl (mm_rc_of (by first | rfl | assumption | (simp only [*]; done))) (ok_X9_no _ _ _ _ (by decide)) rfl ?_
            refine gp_iret dX9_behind_47 rfl ?_
            (refine mNo ?zqa ?zqc hs; (case zqa => (first | ((simp [w_bh, *]; done)) | (exfalso; first | contradiction | (simp_all; done)))); (case zqc => (unfold isW; decide)))
      · have h3' := Int32.not_le.mp h3
        (try simp only [bi_0, bi_1, Classical.not_not, m0, m1] at h3)
        refine gp_aload_n dX9_behind_23 rfl ?_
        refine gp_pu (st' := .int (-5) :: _) dX9_behind_24 rfl ?_
        refine gp_call (kind := 1) (args := [.ref _, .int _]) (rest := _) dX9_behind_26 (Or.inr (Or.inl ⟨rfl, rfl⟩)) mk_9_127 (by decide) me_127 rfl rfl rfl rfl rfl (mm_rc_of (by first | rfl | assumption | (simp only [*]; done))) (ok_X9_no _ _ _ _ (by decide)) rfl ?_
        refine gp_iret dX9_behind_29 rfl ?_
        (refine mNo ?zqa ?zqc hs; (case zqa => (first | ((simp [w_bh, *]; done)) | (exfalso; first | contradiction | (simp_all; done)))); (case zqc => (unfold isW; decide)))
  · (try simp only [bi_0, bi_1, Classical.not_not, m0, m1] at h1)
    refine gp_aload_n dX9_behind_8 rfl ?_
    refine gp_pu (st' := .int (-1) :: _) dX9_behind_9 rfl ?_
    refine gp_call (kind := 1) (args := [.ref _, .int _]) (rest := _) dX9_behind_10 (Or.inr (Or.inl ⟨rfl, rfl⟩)) mk_9_127 (by decide) me_127 rfl rfl rfl rfl rfl (mm_rc_of (by first | rfl | assumption | (simp only [*]; done))) (ok_X9_no _ _ _ _ (by decide)) rfl ?_
    refine gp_iret dX9_behind_13 rfl ?_
    (refine mNo ?zqa ?zqc hs; (case zqa => (first | ((simp [w_bh, *]; done)) | (exfalso; first | contradiction | (simp_all; done)))); (case zqc => (unfold isW; decide)))

theorem eq_behind (c n w : Int32) : eqc 77 185 [.int c, .int n, .int w] := by
  refine eqc_q fun I L hR => ?_
  obtain ⟨N, S, hb, hS, hL, hK, hT, hW, hE⟩ := hR
  refine ⟨_, w_bh N c n w, w_bh_w N c n w, cl_behind 32 hb, fun C J hs => ml_behind 31 hb.1 hs⟩

set_option maxHeartbeats 400000 in
theorem cl_wall (d : Nat) (hb : bR I N S) {c : Int32} : cP (d + 8) 88 [.ref 0, .int c] (mm_sh, mm_R, I, L) (pX (some (.int (vt (w_c N c) (hW I c.toNatClampNeg)))) L (sc (rI I (w_c N c)))) := by
  have hs := sc.rf I
  have e11 : I 1 1 = nI N := hb.c11 hs
  have e13 : I 1 3 = nI S := hb.c13 hs
  refine cP.of_gP (d := d + 7) me_88 ⟨Nat.le_of_ble_eq_true rfl, rfl⟩ ?_
  show gP mm_cs0 _ _ _ _ _ _ [some (.ref _), some (.int _)] [] _ _
  refine gp_aload_n dX8_wall_0 rfl ?_
  refine gp_gr dX8_wall_1 mf_8_10 rfl (by first | rfl | assumption | (simp only [*]; done)) (by first | rfl | assumption | (simp only [*]; done)) ?_
  refine gp_iload_n dX8_wall_4 rfl ?_
  refine gp_call (kind := 1) (args := [.ref _, .int _]) (rest := _) dX8_wall_5 (Or.inr (Or.inl ⟨rfl, rfl⟩)) mk_8_126 (by decide) me_3 rfl rfl rfl rfl rfl (mm_rc_of (by first | rfl | assumption | (simp only [*]; done))) (ok_X1_hasChild _ _ _ _ rfl _) rfl ?_
  refine gp_ifc (t := 18) dX8_wall_8 (by decide) c1_ne (fun h1 => ?_) (fun h1 => ?_)
  · (try simp only [bi_0, bi_1, Classical.not_not, e11, e13] at h1)
    refine gp_aload_n dX8_wall_18 rfl ?_
    refine gp_gr dX8_wall_19 mf_8_31 rfl (by first | rfl | assumption | (simp only [*]; done)) (by first | rfl | assumption | (simp only [*]; done)) ?_
    refine gp_aload_n dX8_wall_22 rfl ?_
    refine gp_gr dX8_wall_23 mf_8_10 rfl (by first | rfl | assumption | (simp only [*]; done)) (by first | rfl | assumption | (simp only [*]; done)) ?_
    refine gp_iload_n dX8_wall_26 rfl ?_
    refine gp_call (kind := 1) (args := [.ref _, .ref _, .int _]) (rest := _) dX8_wall_27 (Or.inr (Or.inl ⟨rfl, rfl⟩)) mk_8_167 (by decide) me_22 rfl rfl rfl rfl rfl (mm_rc_of (by first | rfl | assumption | (simp only [*]; done))) (ok_X4_take _ _ _ 62 1 _ isRa_62 isF_1 (by decide) (by rw [e11]; assumption) (i_n8 hb) (i_z2 hb)) rfl ?_
    refine gp_aload_n dX8_wall_30 rfl ?_
    refine gp_gr dX8_wall_31 mf_8_31 rfl (by first | rfl | assumption | (simp only [*]; done)) (by first | rfl | assumption | (simp only [*]; done)) ?_
    refine gp_aload_n dX8_wall_34 rfl ?_
    refine gp_gr dX8_wall_35 mf_8_10 rfl (by first | rfl | assumption | (simp only [*]; done)) (by first | rfl | assumption | (simp only [*]; done)) ?_
    refine gp_callX (kind := 1) (args := [.ref _, .ref _]) (rest := _) dX8_wall_38 (Or.inr (Or.inl ⟨rfl, rfl⟩)) mk_8_171 (by decide) me_23 rfl rfl rfl rfl rfl (mm_rc_of (by first | rfl | assumption | (simp only [*]; done))) (ct_begin _ _ hb hs (by assumption)) ?_
    intro K1 hK1
    refine gp_aload_n dX8_wall_41 rfl ?_
    refine gp_gr dX8_wall_42 mf_8_31 rfl (by first | rfl | assumption | (simp only [*]; done)) (by first | rfl | assumption | (simp only [*]; done)) ?_
    refine gp_pu (st' := .int (999) :: _) dX8_wall_45 rfl ?_
    refine gp_callX (kind := 1) (args := [.ref _, .int _]) (rest := _) dX8_wall_48 (Or.inr (Or.inl ⟨rfl, rfl⟩)) mk_8_251 (by decide) me_30 rfl rfl rfl rfl rfl (mm_rc_of (by first | rfl | assumption | (simp only [*]; done))) (ct_goToWay (n := 999) _ hb (hb.cl (c := c) (by assumption)).2.1 hK1 (by decide) (by decide)) ?_
    intro K2 hK2
    obtain ⟨zqa, zqb, zqc⟩ := hK2
    refine gp_aload_n dX8_wall_51 rfl ?_
    refine gp_gr dX8_wall_52 mf_8_31 rfl (by first | rfl | assumption | (simp only [*]; done)) (by first | rfl | assumption | (simp only [*]; done)) ?_
    refine gp_giv dX8_wall_55 mf_8_323 (by decide) (by first | rfl | assumption | (simp only [*]; done)) (by first | exact zqc rfl | exact rfl) ?_
    refine gp_iret dX8_wall_58 rfl ?_
    first | (refine cOt ?zqa ?zqb zqa; (case zqa => (first | ((simp [w_c, *]; done)) | (exfalso; first | contradiction | (simp_all; done)))); (case zqb => (exact rfl)))
  · (try simp only [bi_0, bi_1, Classical.not_not, e11, e13] at h1)
    refine gp_aload_n dX8_wall_11 rfl ?_
    refine gp_pu (st' := .int (-11) :: _) dX8_wall_12 rfl ?_
    refine gp_call (kind := 1) (args := [.ref _, .int _]) (rest := _) dX8_wall_14 (Or.inr (Or.inl ⟨rfl, rfl⟩)) mk_8_79 (by decide) me_100 rfl rfl rfl rfl rfl (mm_rc_of (by first | rfl | assumption | (simp only [*]; done))) (ok_X8_refuse _ _ _ _) rfl ?_
    refine gp_iret dX8_wall_17 rfl ?_
    first | (refine cNt (n := (-1)) ?zqa ?zqc ?zqd; (case zqd => decide); (case zqa => (first | ((simp [w_c, *]; done)) | (exfalso; first | contradiction | (simp_all; done)))); (case zqc => (unfold isW; decide)))

def m_wall : Nat → mRow → Int32
  | 0, _ => -1
  | n + 1, μ => if μ 42 < μ 2 then (if 0 < m_sec μ 46 then m_sec μ 42 else m_wall n (m_sec μ)) else -1
theorem m_wall_h (n : Nat) : ∀ μ : mRow, m_wall n μ = y_wall (μ 41) (μ 3) (m_stride μ) (m_puff μ) (m_risk μ) (μ 2) n (m_t μ) := by
  induction n with
  | zero => intro μ; rfl
  | succ n ih =>
    intro μ
    have e := m_sec_t μ
    obtain ⟨p1, p2, p3⟩ := m_par (μ := μ) (ν := m_sec μ) (fun j hj => m_sec_p μ (Or.inl hj))
    have h2 := ih (m_sec μ)
    rw [p1, p2, p3, m_sec_p μ (j := 41) (by omega), m_sec_p μ (j := 3) (by omega), m_sec_p μ (j := 2) (by omega)] at h2
    unfold m_wall y_wall
    rw [← e, h2]
    rfl

set_option maxHeartbeats 400000 in
theorem lp_mwall (d : Nat) {c : Int32} : ∀ (n i : Nat) (J : pI), i + n = 999 → isKd (J 108 35) → mR I C J → gP mm_cs0 (d + 5) 9 false (some .int) cX9_wall 25 [some (.ref 108), some (.int c), some (.int (nI i))] [] (mm_sh, mm_R, J, L) (pX (some (.int (m_wall n (J 108)))) L (mR I C)) := by
  intro n
  induction n with
  | zero =>
    intro i J hi hkd hsJ
    obtain rfl : i = 999 := by omega
    have hc1 : (999 : Int32) ≤ nI 999 := by decide
    refine gp_iload_n dX9_wall_25 rfl ?_
    refine gp_pu (st' := .int (999) :: _) dX9_wall_26 rfl ?_
    refine gp_icc (t := 65) dX9_wall_29 (by decide) c2_ge (fun h1 => ?_) (fun h1 => ?_)
    · have h1' := Int32.not_lt.mpr h1
      refine gp_pu (st' := .int (-1) :: _) dX9_wall_65 rfl ?_
      refine gp_iret dX9_wall_66 rfl ?_
      exact pX.mk rfl hsJ
    · exact absurd hc1 h1
  | succ n ih =>
    intro i J hi hkd hsJ
    have hc1 : ¬ (999 : Int32) ≤ nI i := nI_ge (b := 999) (by omega) (by omega)
    refine gp_iload_n dX9_wall_25 rfl ?_
    refine gp_pu (st' := .int (999) :: _) dX9_wall_26 rfl ?_
    refine gp_icc (t := 65) dX9_wall_29 (by decide) c2_ge (fun h1 => ?_) (fun h1 => ?_)
    · exact absurd h1 hc1
    · have h1' := Int32.not_le.mp h1
      refine gp_aload_n dX9_wall_32 rfl ?_
      refine gp_giv dX9_wall_33 mf_9_257 (by decide) (by first | rfl | assumption | (simp only [*]; done)) (by first | exact rfl) ?_
      refine gp_aload_n dX9_wall_36 rfl ?_
      refine gp_giv dX9_wall_37 mf_9_7 (by decide) (by first | rfl | assumption | (simp only [*]; done)) (by first | exact rfl) ?_
      refine gp_icc (t := 65) dX9_wall_40 (by decide) c2_ge (fun h2 => ?_) (fun h2 => ?_)
      · have h2' := Int32.not_lt.mpr h2
        refine gp_pu (st' := .int (-1) :: _) dX9_wall_65 rfl ?_
        refine gp_iret dX9_wall_66 rfl ?_
        (refine pX.mk (congrArg some (congrArg Value.int ?zqa)) hsJ
         case zqa => (rw [m_wall, if_neg (Int32.not_lt.mpr h2)]))
      · have h2' := Int32.not_le.mp h2
        refine gp_aload_n dX9_wall_43 rfl ?_
        refine gp_call (kind := 1) (args := [.ref _]) (rest := _) dX9_wall_44 (Or.inr (Or.inl ⟨rfl, rfl⟩)) mk_9_284 (by decide) me_177 rfl rfl rfl rfl rfl (mm_rc_of (by first | rfl | assumption | (simp only [*]; done))) (ok_X9_second _ _ _ hkd) rfl ?_
        have hs2 : mR I C (sr J 108 (m_sec (J 108))) := hsJ.row fun j hj => m_sec_p _ (by omega)
        refine gp_aload_n dX9_wall_47 rfl ?_
        refine gp_giv dX9_wall_48 mf_9_266 (by decide) (by first | rfl | assumption | (simp only [*]; done)) (by first | exact rfl) ?_
        refine gp_ifc (t := 59) dX9_wall_51 (by decide) c1_le (fun h3 => ?_) (fun h3 => ?_)
        · have h3' := Int32.not_lt.mpr h3
          refine gp_iinc (v := (1)) (ls' := [some (.ref _), some (.int _), some (.int _)]) dX9_wall_59 rfl (by decide) rfl ?_
          refine gp_goto (t := 25) dX9_wall_62 (by decide) ?_
          (rw [nI_1]
           have ih' := ih (i + 1) _ (by omega) (by rw [sr_same, m_sec_p _ (by omega)]; exact hkd) hs2
           rw [m_wall, if_pos h2', if_neg (by rw [sr_same] at h3; exact Int32.not_lt.mpr h3)]
           rw [sr_same] at ih'
           exact ih')
        · have h3' := Int32.not_le.mp h3
          refine gp_aload_n dX9_wall_54 rfl ?_
          refine gp_giv dX9_wall_55 mf_9_257 (by decide) (by first | rfl | assumption | (simp only [*]; done)) (by first | exact rfl) ?_
          refine gp_iret dX9_wall_58 rfl ?_
          (refine pX.mk (congrArg some (congrArg Value.int ?zqa)) hs2
           case zqa => (rw [sr_same] at h3' ⊢; rw [m_wall, if_pos h2', if_pos h3']))

set_option maxHeartbeats 400000 in
theorem ml_wall (d : Nat) (v : vN I N S) (hs : mR I C J) {c : Int32} : cP (d + 8) 202 [.ref 108, .int c] (mm_sh, mm_R, J, L) (pX (some (.int (vt (w_c N c) (hW I c.toNatClampNeg)))) L (mR (rM I (w_c N c)) C)) := by
  have m0 : J 108 0 = nI N := (hs.r (by decide)).trans v.2.2.1
  have m1 : J 108 1 = nI S := (hs.r (by decide)).trans v.2.2.2.1
  refine cP.of_gP (d := d + 7) me_202 ⟨Nat.le_of_ble_eq_true rfl, rfl⟩ ?_
  show gP mm_cs0 _ _ _ _ _ _ [some (.ref _), some (.int _), none] [] _ _
  refine gp_aload_n dX9_wall_0 rfl ?_
  refine gp_iload_n dX9_wall_1 rfl ?_
  refine gp_call (kind := 1) (args := [.ref _, .int _]) (rest := _) dX9_wall_2 (Or.inr (Or.inl ⟨rfl, rfl⟩)) mk_9_131 (by decide) me_130 rfl rfl rfl rfl rfl (mm_rc_of (by first | rfl | assumption | (simp only [*]; done))) (ok_X9_isChild _ _ _ _) rfl ?_
  refine gp_ifc (t := 14) dX9_wall_5 (by decide) c1_ne (fun h1 => ?_) (fun h1 => ?_)
  · (try simp only [bi_0, bi_1, Classical.not_not, m0, m1] at h1)
    refine gp_aload_n dX9_wall_14 rfl ?_
    refine gp_iload_n dX9_wall_15 rfl ?_
    refine gp_callX (kind := 1) (args := [.ref _, .int _]) (rest := _) dX9_wall_16 (Or.inr (Or.inl ⟨rfl, rfl⟩)) mk_9_134 (by decide) me_166 rfl rfl rfl rfl rfl (mm_rc_of (by first | rfl | assumption | (simp only [*]; done))) (mt_puts _ _ v hs (by assumption)) ?_
    intro K1 hK1
    have zqkd : isKd (K1 108 35) := by rw [hK1.2.1.1]; exact isKd_wi (v.k (v.cl (c := c) (by assumption)).2.1).1
    refine gp_aload_n dX9_wall_19 rfl ?_
    refine gp_call (kind := 1) (args := [.ref _]) (rest := _) dX9_wall_20 (Or.inr (Or.inl ⟨rfl, rfl⟩)) mk_9_281 (by decide) me_173 rfl rfl rfl rfl rfl (mm_rc_of (by first | rfl | assumption | (simp only [*]; done))) (ok_X9_starts _ _ _) rfl ?_
    refine gp_pu (st' := .int (0) :: _) dX9_wall_23 rfl ?_
    refine gp_istore_n (ls' := [some (.ref _), some (.int _), some (.int _)]) dX9_wall_24 rfl (Nat.le_of_ble_eq_true rfl) ?_
    (have hw : w_c N c = 0 := by simp [w_c, *])
    rw [hw]
    have zqo := lp_mwall (d + 2) (c := c) (I := I) (C := C) (L := L) 999 0 (sr K1 108 (m_starts (K1 108))) (by omega) (by rw [sr_same, m_st_p _ (by omega)]; exact zqkd) (hK1.1.row fun j hj => m_st_p _ (by omega))
    have zqe : m_wall 999 (sr K1 108 (m_starts (K1 108)) 108) = hW I c.toNatClampNeg := by
      obtain ⟨p1, p2, p3⟩ := hop_st hK1.2.1
      obtain ⟨h1, h2, h3, h4, h5, h6, h7⟩ := hK1.2.1
      obtain ⟨q1, q2, q3⟩ := m_par (μ := K1 108) (ν := m_starts (K1 108)) (fun j hj => m_st_p _ (Or.inl hj))
      rw [sr_same, m_wall_h, q1, q2, q3, m_st_p _ (j := 41) (by omega), m_st_p _ (j := 3) (by omega), m_st_p _ (j := 2) (by omega), m_st_t, p1, p2, p3, h4, h5, hK1.1.r (j := 3) (by omega), hK1.1.r (j := 2) (by omega), hK1.1.r (j := 5) (by omega)]
      rfl
    rw [zqe] at zqo
    exact zqo
  · (try simp only [bi_0, bi_1, Classical.not_not, m0, m1] at h1)
    refine gp_aload_n dX9_wall_8 rfl ?_
    refine gp_pu (st' := .int (-1) :: _) dX9_wall_9 rfl ?_
    refine gp_call (kind := 1) (args := [.ref _, .int _]) (rest := _) dX9_wall_10 (Or.inr (Or.inl ⟨rfl, rfl⟩)) mk_9_330 (by decide) me_128 rfl rfl rfl rfl rfl (mm_rc_of (by first | rfl | assumption | (simp only [*]; done))) (ok_X9_noTen _ _ _ _ (by decide)) rfl ?_
    refine gp_iret dX9_wall_13 rfl ?_
    first | (refine mNt ?zqa ?zqc hs; (case zqa => (first | ((simp [w_c, *]; done)) | (exfalso; first | contradiction | (simp_all; done)))); (case zqc => (unfold isW; decide)))

theorem eq_wall (c : Int32) : eqc 88 202 [.int c] := by
  refine eqc_q fun I L hR => ?_
  obtain ⟨N, S, hb, hS, hL, hK, hT, hW, hE⟩ := hR
  refine ⟨_, w_c N c, w_c_w N c, cl_wall 32 hb, fun C J hs => ml_wall 32 hb.1 hs⟩
end P74
