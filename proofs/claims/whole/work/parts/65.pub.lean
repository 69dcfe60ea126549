/-! PUBLIC METHODS: wears, ahead, ask, roll, seed, sack, child -/
section P65
variable {I C J : pI} {L : pL} {N S : Nat}

def w_we (N S : Nat) (c k : Int32) : Int32 := if ¬ (0 ≤ c ∧ c < nI N) then -1 else if ¬ (0 ≤ k ∧ k < nI S) then -1 else 0
theorem w_we_w (N S : Nat) (c k : Int32) : w_we N S c k = 0 ∨ isW (w_we N S c k) := by unfold w_we; (repeat' split) <;> first | exact Or.inl rfl | (right; unfold isW; decide)
theorem w_we_0 {c k : Int32} (h : w_we N S c k = 0) : (0 ≤ c ∧ c < nI N) ∧ (0 ≤ k ∧ k < nI S) := by
  unfold w_we at h
  by_cases a : 0 ≤ c ∧ c < nI N
  · by_cases b : 0 ≤ k ∧ k < nI S
    · exact ⟨a, b⟩
    · rw [if_neg (fun z => z a), if_pos b] at h; exact absurd h (by decide)
  · rw [if_pos a] at h; exact absurd h (by decide)

set_option maxHeartbeats 400000 in
theorem cl_wears (d : Nat) (hb : bR I N S) {c k : Int32} : cP (d + 3) 71 [.ref 0, .int c, .int k] (mm_sh, mm_R, I, L) (pX (some (.int (vq (w_we N S c k) (I 113 c.toNatClampNeg)))) (lL (w_we N S c k) L L) (sc (uC (w_we N S c k) (mm_u I (5 + c.toNatClampNeg) 3 k) I))) := by
  have hs := sc.rf I
  have e11 : I 1 1 = nI N := hb.c11 hs
  have e13 : I 1 3 = nI S := hb.c13 hs
  refine cP.of_gP (d := d + 2) me_71 ⟨Nat.le_of_ble_eq_true rfl, rfl⟩ ?_
  show gP mm_cs0 _ _ _ _ _ _ [some (.ref _), some (.int _), some (.int _), none] [] _ _
  refine gp_aload_n dX8_wears_0 rfl ?_
  refine gp_gr dX8_wears_1 mf_8_10 rfl (by first | rfl | assumption | (simp only [*]; done)) (by first | rfl | assumption | (simp only [*]; done)) ?_
  refine gp_iload_n dX8_wears_4 rfl ?_
  refine gp_call (kind := 1) (args := [.ref _, .int _]) (rest := _) dX8_wears_5 (Or.inr (Or.inl ⟨rfl, rfl⟩)) mk_8_126 (by decide) me_3 rfl rfl rfl rfl rfl (mm_rc_of (by first | rfl | assumption | (simp only [*]; done))) (ok_X1_hasChild _ _ _ _ rfl _) rfl ?_
  refine gp_ifc (t := 22) dX8_wears_8 (by decide) c1_eq (fun h1 => ?_) (fun h1 => ?_)
  · (try simp only [bi_0, bi_1, Classical.not_not, e11, e13] at h1)
    refine gp_aload_n dX8_wears_22 rfl ?_
    refine gp_pu (st' := .int (-1) :: _) dX8_wears_23 rfl ?_
    refine gp_call (kind := 1) (args := [.ref _, .int _]) (rest := _) dX8_wears_24 (Or.inr (Or.inl ⟨rfl, rfl⟩)) mk_8_79 (by decide) me_100 rfl rfl rfl rfl rfl (mm_rc_of (by first | rfl | assumption | (simp only [*]; done))) (ok_X8_refuse _ _ _ _) rfl ?_
    refine gp_iret dX8_wears_27 rfl ?_
    first | (refine uNo ?zqa (by unfold isW; decide); (case zqa => ((simp [w_we, *]; done))))
  · (try simp only [bi_0, bi_1, Classical.not_not, e11, e13] at h1)
    refine gp_aload_n dX8_wears_11 rfl ?_
    refine gp_gr dX8_wears_12 mf_8_10 rfl (by first | rfl | assumption | (simp only [*]; done)) (by first | rfl | assumption | (simp only [*]; done)) ?_
    refine gp_iload_n dX8_wears_15 rfl ?_
    refine gp_call (kind := 1) (args := [.ref _, .int _]) (rest := _) dX8_wears_16 (Or.inr (Or.inl ⟨rfl, rfl⟩)) mk_8_203 (by decide) me_4 rfl rfl rfl rfl rfl (mm_rc_of (by first | rfl | assumption | (simp only [*]; done))) (ok_X1_hasSack _ _ _ _ rfl _) rfl ?_
    refine gp_ifc (t := 28) dX8_wears_19 (by decide) c1_ne (fun h2 => ?_) (fun h2 => ?_)
    · (try simp only [bi_0, bi_1, Classical.not_not, e11, e13] at h2)
      obtain ⟨zqc1, zqc2, zqc3, zqc4⟩ := hb.cc hs (c := c) (by assumption)
      refine gp_aload_n dX8_wears_28 rfl ?_
      refine gp_gr dX8_wears_29 mf_8_10 rfl (by first | rfl | assumption | (simp only [*]; done)) (by first | rfl | assumption | (simp only [*]; done)) ?_
      refine gp_gr dX8_wears_32 mf_8_138 rfl (by first | rfl | assumption | (simp only [*]; done)) (by first | rfl | assumption | (simp only [*]; done)) ?_
      refine gp_iload_n dX8_wears_35 rfl ?_
      refine gp_aal dX8_wears_36 (by first | rfl | assumption | (simp only [*]; done)) (by decide) (by first | rfl | assumption | (simp only [*]; done)) (by first | rfl | assumption | (simp only [*]; done)) ?_
      refine gp_giv dX8_wears_37 mf_8_185 (by decide) (by first | rfl | assumption | (simp only [*]; done)) (by first | exact zqc4 _ (by decide) | exact rfl) ?_
      refine gp_istore_n (ls' := [some (.ref _), some (.int _), some (.int _), some (.int _)]) dX8_wears_40 rfl (Nat.le_of_ble_eq_true rfl) ?_
      refine gp_aload_n dX8_wears_41 rfl ?_
      refine gp_gr dX8_wears_42 mf_8_10 rfl (by first | rfl | assumption | (simp only [*]; done)) (by first | rfl | assumption | (simp only [*]; done)) ?_
      refine gp_gr dX8_wears_45 mf_8_138 rfl (by first | rfl | assumption | (simp only [*]; done)) (by first | rfl | assumption | (simp only [*]; done)) ?_
      refine gp_iload_n dX8_wears_48 rfl ?_
      refine gp_aal dX8_wears_49 (by first | rfl | assumption | (simp only [*]; done)) (by decide) (by first | rfl | assumption | (simp only [*]; done)) (by first | rfl | assumption | (simp only [*]; done)) ?_
      refine gp_iload_n dX8_wears_50 rfl ?_
      refine gp_pi dX8_wears_51 mf_8_185 rfl rfl (by first | rfl | assumption | (simp only [*]; done)) ?_
      refine gp_iload_n dX8_wears_54 rfl ?_
      refine gp_iret dX8_wears_55 rfl ?_
      first | (refine uOk ?zqa ?zqb (sc.rf _); (case zqa => ((simp [w_we, *]; done))); (case zqb => (exact rfl)))
    · (try simp only [bi_0, bi_1, Classical.not_not, e11, e13] at h2)
      refine gp_aload_n dX8_wears_22 rfl ?_
      refine gp_pu (st' := .int (-1) :: _) dX8_wears_23 rfl ?_
      refine gp_call (kind := 1) (args := [.ref _, .int _]) (rest := _) dX8_wears_24 (Or.inr (Or.inl ⟨rfl, rfl⟩)) mk_8_79 (by decide) me_100 rfl rfl rfl rfl rfl (mm_rc_of (by first | rfl | assumption | (simp only [*]; done))) (ok_X8_refuse _ _ _ _) rfl ?_
      refine gp_iret dX8_wears_27 rfl ?_
      first | (refine uNo ?zqa (by unfold isW; decide); (case zqa => ((simp [w_we, *]; done))))

set_option maxHeartbeats 400000 in
theorem ml_wears (d : Nat) (v : vN I N S) (hs : mR I C J) {c k : Int32} : cP (d + 3) 148 [.ref 108, .int c, .int k] (mm_sh, mm_R, J, L) (pX (some (.int (vq (w_we N S c k) (I 113 c.toNatClampNeg)))) (lL (w_we N S c k) L L) (mR (uM (w_we N S c k) (mm_u I 113 c.toNatClampNeg k) I) C)) := by
  have m0 : J 108 0 = nI N := (hs.r (by decide)).trans v.2.2.1
  have m1 : J 108 1 = nI S := (hs.r (by decide)).trans v.2.2.2.1
  refine cP.of_gP (d := d + 2) me_148 ⟨Nat.le_of_ble_eq_true rfl, rfl⟩ ?_
  show gP mm_cs0 _ _ _ _ _ _ [some (.ref _), some (.int _), some (.int _), none] [] _ _
  refine gp_aload_n dX9_wears_0 rfl ?_
  refine gp_iload_n dX9_wears_1 rfl ?_
  refine gp_call (kind := 1) (args := [.ref _, .int _]) (rest := _) dX9_wears_2 (Or.inr (Or.inl ⟨rfl, rfl⟩)) mk_9_131 (by decide) me_130 rfl rfl rfl rfl rfl (mm_rc_of (by first | rfl | assumption | (simp only [*]; done))) (ok_X9_isChild _ _ _ _) rfl ?_
  refine gp_ifc (t := 16) dX9_wears_5 (by decide) c1_eq (fun h1 => ?_) (fun h1 => ?_)
  · (try simp only [bi_0, bi_1, Classical.not_not, m0, m1] at h1)
    refine gp_aload_n dX9_wears_16 rfl ?_
    refine gp_pu (st' := .int (-1) :: _) dX9_wears_17 rfl ?_
    refine gp_call (kind := 1) (args := [.ref _, .int _]) (rest := _) dX9_wears_18 (Or.inr (Or.inl ⟨rfl, rfl⟩)) mk_9_127 (by decide) me_127 rfl rfl rfl rfl rfl (mm_rc_of (by first | rfl | assumption | (simp only [*]; done))) (ok_X9_no _ _ _ _ (by decide)) rfl ?_
    refine gp_iret dX9_wears_21 rfl ?_
    first | (refine uMo ?zqa (by unfold isW; decide) hs; (case zqa => ((simp [w_we, *]; done))))
  · (try simp only [bi_0, bi_1, Classical.not_not, m0, m1] at h1)
    refine gp_aload_n dX9_wears_8 rfl ?_
    refine gp_iload_n dX9_wears_9 rfl ?_
    refine gp_call (kind := 1) (args := [.ref _, .int _]) (rest := _) dX9_wears_10 (Or.inr (Or.inl ⟨rfl, rfl⟩)) mk_9_156 (by decide) me_131 rfl rfl rfl rfl rfl (mm_rc_of (by first | rfl | assumption | (simp only [*]; done))) (ok_X9_isSack _ _ _ _) rfl ?_
    refine gp_ifc (t := 22) dX9_wears_13 (by decide) c1_ne (fun h2 => ?_) (fun h2 => ?_)
    · (try simp only [bi_0, bi_1, Classical.not_not, m0, m1] at h2)
      have zqm1 := v.in8 (c := c) (by assumption)
      refine gp_aload_n dX9_wears_22 rfl ?_
      refine gp_gr dX9_wears_23 mf_9_41 rfl (by first | rfl | assumption | (simp only [*]; done)) (by first | rfl | assumption | (simp only [*]; done)) ?_
      refine gp_iload_n dX9_wears_26 rfl ?_
      refine gp_ialv dX9_wears_27 rfl (by first | rfl | assumption | (simp only [*]; done)) (by first | rfl | assumption | (simp only [*]; done)) (by first | exact hs.1 _ _ rfl | exact rfl) ?_
      refine gp_istore_n (ls' := [some (.ref _), some (.int _), some (.int _), some (.int _)]) dX9_wears_28 rfl (Nat.le_of_ble_eq_true rfl) ?_
      refine gp_aload_n dX9_wears_29 rfl ?_
      refine gp_gr dX9_wears_30 mf_9_41 rfl (by first | rfl | assumption | (simp only [*]; done)) (by first | rfl | assumption | (simp only [*]; done)) ?_
      refine gp_iload_n dX9_wears_33 rfl ?_
      refine gp_iload_n dX9_wears_34 rfl ?_
      refine gp_ias dX9_wears_35 (by first | rfl | assumption | (simp only [*]; done)) (by first | rfl | assumption | (simp only [*]; done)) ?_
      refine gp_iload_n dX9_wears_36 rfl ?_
      refine gp_iret dX9_wears_37 rfl ?_
      first | (refine uMk ?zqa ?zqb (hs.uu (by decide)); (case zqa => ((simp [w_we, *]; done))); (case zqb => (exact rfl)))
    · (try simp only [bi_0, bi_1, Classical.not_not, m0, m1] at h2)
      refine gp_aload_n dX9_wears_16 rfl ?_
      refine gp_pu (st' := .int (-1) :: _) dX9_wears_17 rfl ?_
      refine gp_call (kind := 1) (args := [.ref _, .int _]) (rest := _) dX9_wears_18 (Or.inr (Or.inl ⟨rfl, rfl⟩)) mk_9_127 (by decide) me_127 rfl rfl rfl rfl rfl (mm_rc_of (by first | rfl | assumption | (simp only [*]; done))) (ok_X9_no _ _ _ _ (by decide)) rfl ?_
      refine gp_iret dX9_wears_21 rfl ?_
      first | (refine uMo ?zqa (by unfold isW; decide) hs; (case zqa => ((simp [w_we, *]; done))))

theorem eq_wears (c k : Int32) : eqc 71 148 [.int c, .int k] := by
  refine eqc_u fun I L hR => ?_
  have hR0 := hR
  obtain ⟨N, S, hb, hS, hL, hK, hT, hW, hE⟩ := hR
  refine ⟨_, w_we N S c k, mm_u I (5 + c.toNatClampNeg) 3 k, mm_u I 113 c.toNatClampNeg k, (fun L => L), (fun L => L), w_we_w N S c k, fun hw => ?_, cl_wears 37 hb, fun C J K hs => ml_wears 37 hb.1 hs, fun hw => ?_⟩
  · have h8 := (hb.cl (w_we_0 hw).1).2.1
    exact fun k hk => mm_u_k _ _ _ (by omega)
  · have h8 := (hb.cl (w_we_0 hw).1).2.1
    exact hR0.now2 (hb.1.ch (j := 3) (by decide) ⟨fun z => absurd z (by decide), fun z => absurd z (by decide), fun z => absurd z (by decide), fun _ => Or.inr (w_we_0 hw).2, fun z => absurd z (by decide)⟩) (hb.2.ch (f := 1) (j := 3) _ h8 (by decide)) (by rw [mm_u_o _ _ _ _ (by decide)]; exact Int32.le_refl _) (fun k a b => mm_u_k _ _ _ (by omega)) (fun k a b => mm_u_k _ _ _ (by omega)) rfl rfl rfl

def w_ah (N : Nat) (c x : Int32) : Int32 := if ¬ (0 ≤ c ∧ c < nI N) then -1 else if x < 0 ∨ 99 < x then -6 else 0
theorem w_ah_w (N : Nat) (c k : Int32) : w_ah N c k = 0 ∨ isW (w_ah N c k) := by unfold w_ah; (repeat' split) <;> first | exact Or.inl rfl | (right; unfold isW; decide)
theorem w_ah_0 {c k : Int32} (h : w_ah N c k = 0) : (0 ≤ c ∧ c < nI N) ∧ wi k 0 99 := by
  unfold w_ah at h
  by_cases a : 0 ≤ c ∧ c < nI N
  · by_cases b : k < 0 ∨ 99 < k
    · rw [if_neg (fun z => z a), if_pos b] at h; exact absurd h (by decide)
    · refine ⟨a, ?_⟩
      simp only [ti_lt, ti_0, ti_99] at b
      unfold wi
      omega
  · rw [if_pos a] at h; exact absurd h (by decide)

set_option maxHeartbeats 400000 in
theorem cl_ahead (d : Nat) (hb : bR I N S) {c k : Int32} : cP (d + 3) 72 [.ref 0, .int c, .int k] (mm_sh, mm_R, I, L) (pX (some (.int (vq (w_ah N c k) (I 114 c.toNatClampNeg)))) (lL (w_ah N c k) L L) (sc (uC (w_ah N c k) (mm_u I (5 + c.toNatClampNeg) 4 k) I))) := by
  have hs := sc.rf I
  have e11 : I 1 1 = nI N := hb.c11 hs
  have e13 : I 1 3 = nI S := hb.c13 hs
  refine cP.of_gP (d := d + 2) me_72 ⟨Nat.le_of_ble_eq_true rfl, rfl⟩ ?_
  show gP mm_cs0 _ _ _ _ _ _ [some (.ref _), some (.int _), some (.int _), none] [] _ _
  refine gp_aload_n dX8_ahead_0 rfl ?_
  refine gp_gr dX8_ahead_1 mf_8_10 rfl (by first | rfl | assumption | (simp only [*]; done)) (by first | rfl | assumption | (simp only [*]; done)) ?_
  refine gp_iload_n dX8_ahead_4 rfl ?_
  refine gp_call (kind := 1) (args := [.ref _, .int _]) (rest := _) dX8_ahead_5 (Or.inr (Or.inl ⟨rfl, rfl⟩)) mk_8_126 (by decide) me_3 rfl rfl rfl rfl rfl (mm_rc_of (by first | rfl | assumption | (simp only [*]; done))) (ok_X1_hasChild _ _ _ _ rfl _) rfl ?_
  refine gp_ifc (t := 17) dX8_ahead_8 (by decide) c1_ne (fun h1 => ?_) (fun h1 => ?_)
  · (try simp only [bi_0, bi_1, Classical.not_not, e11, e13] at h1)
    refine gp_iload_n dX8_ahead_17 rfl ?_
    refine gp_ifc (t := 27) dX8_ahead_18 (by decide) c1_lt (fun h2 => ?_) (fun h2 => ?_)
    · have h2' := Int32.not_le.mpr h2
      (try simp only [bi_0, bi_1, Classical.not_not, e11, e13] at h2)
      refine gp_aload_n dX8_ahead_27 rfl ?_
      refine gp_pu (st' := .int (-6) :: _) dX8_ahead_28 rfl ?_
      refine gp_call (kind := 1) (args := [.ref _, .int _]) (rest := _) dX8_ahead_30 (Or.inr (Or.inl ⟨rfl, rfl⟩)) mk_8_79 (by decide) me_100 rfl rfl rfl rfl rfl (mm_rc_of (by first | rfl | assumption | (simp only [*]; done))) (ok_X8_refuse _ _ _ _) rfl ?_
      refine gp_iret dX8_ahead_33 rfl ?_
      first | (refine uNo ?zqa (by unfold isW; decide); (case zqa => ((simp [w_ah, *]; done))))
    · have h2' := Int32.not_lt.mp h2
      (try simp only [bi_0, bi_1, Classical.not_not, e11, e13] at h2)
      refine gp_iload_n dX8_ahead_21 rfl ?_
      refine gp_pu (st' := .int (99) :: _) dX8_ahead_22 rfl ?_
      refine gp_icc (t := 34) dX8_ahead_24 (by decide) c2_le (fun h3 => ?_) (fun h3 => ?_)
      · have h3' := Int32.not_lt.mpr h3
        (try simp only [bi_0, bi_1, Classical.not_not, e11, e13] at h3)
        obtain ⟨zqc1, zqc2, zqc3, zqc4⟩ := hb.cc hs (c := c) (by assumption)
        refine gp_aload_n dX8_ahead_34 rfl ?_
        refine gp_gr dX8_ahead_35 mf_8_10 rfl (by first | rfl | assumption | (simp only [*]; done)) (by first | rfl | assumption | (simp only [*]; done)) ?_
        refine gp_gr dX8_ahead_38 mf_8_138 rfl (by first | rfl | assumption | (simp only [*]; done)) (by first | rfl | assumption | (simp only [*]; done)) ?_
        refine gp_iload_n dX8_ahead_41 rfl ?_
        refine gp_aal dX8_ahead_42 (by first | rfl | assumption | (simp only [*]; done)) (by decide) (by first | rfl | assumption | (simp only [*]; done)) (by first | rfl | assumption | (simp only [*]; done)) ?_
        refine gp_giv dX8_ahead_43 mf_8_188 (by decide) (by first | rfl | assumption | (simp only [*]; done)) (by first | exact zqc4 _ (by decide) | exact rfl) ?_
        refine gp_istore_n (ls' := [some (.ref _), some (.int _), some (.int _), some (.int _)]) dX8_ahead_46 rfl (Nat.le_of_ble_eq_true rfl) ?_
        refine gp_aload_n dX8_ahead_47 rfl ?_
        refine gp_gr dX8_ahead_48 mf_8_10 rfl (by first | rfl | assumption | (simp only [*]; done)) (by first | rfl | assumption | (simp only [*]; done)) ?_
        refine gp_gr dX8_ahead_51 mf_8_138 rfl (by first | rfl | assumption | (simp only [*]; done)) (by first | rfl | assumption | (simp only [*]; done)) ?_
        refine gp_iload_n dX8_ahead_54 rfl ?_
        refine gp_aal dX8_ahead_55 (by first | rfl | assumption | (simp only [*]; done)) (by decide) (by first | rfl | assumption | (simp only [*]; done)) (by first | rfl | assumption | (simp only [*]; done)) ?_
        refine gp_iload_n dX8_ahead_56 rfl ?_
        refine gp_pi dX8_ahead_57 mf_8_188 rfl rfl (by first | rfl | assumption | (simp only [*]; done)) ?_
        refine gp_iload_n dX8_ahead_60 rfl ?_
        refine gp_iret dX8_ahead_61 rfl ?_
        first | (refine uOk ?zqa ?zqb (sc.rf _); (case zqa => ((simp [w_ah, *]; done))); (case zqb => (exact rfl)))
      · have h3' := Int32.not_le.mp h3
        (try simp only [bi_0, bi_1, Classical.not_not, e11, e13] at h3)
        refine gp_aload_n dX8_ahead_27 rfl ?_
        refine gp_pu (st' := .int (-6) :: _) dX8_ahead_28 rfl ?_
        refine gp_call (kind := 1) (args := [.ref _, .int _]) (rest := _) dX8_ahead_30 (Or.inr (Or.inl ⟨rfl, rfl⟩)) mk_8_79 (by decide) me_100 rfl rfl rfl rfl rfl (mm_rc_of (by first | rfl | assumption | (simp only [*]; done))) (ok_X8_refuse _ _ _ _) rfl ?_
        refine gp_iret dX8_ahead_33 rfl ?_
        first | (refine uNo ?zqa (by unfold isW; decide); (case zqa => ((simp [w_ah, *]; done))))
  · (try simp only [bi_0, bi_1, Classical.not_not, e11, e13] at h1)
    refine gp_aload_n dX8_ahead_11 rfl ?_
    refine gp_pu (st' := .int (-1) :: _) dX8_ahead_12 rfl ?_
    refine gp_call (kind := 1) (args := [.ref _, .int _]) (rest := _) dX8_ahead_13 (Or.inr (Or.inl ⟨rfl, rfl⟩)) mk_8_79 (by decide) me_100 rfl rfl rfl rfl rfl (mm_rc_of (by first | rfl | assumption | (simp only [*]; done))) (ok_X8_refuse _ _ _ _) rfl ?_
    refine gp_iret dX8_ahead_16 rfl ?_
    first | (refine uNo ?zqa (by unfold isW; decide); (case zqa => ((simp [w_ah, *]; done))))

set_option maxHeartbeats 400000 in
theorem ml_ahead (d : Nat) (v : vN I N S) (hs : mR I C J) {c k : Int32} : cP (d + 3) 149 [.ref 108, .int c, .int k] (mm_sh, mm_R, J, L) (pX (some (.int (vq (w_ah N c k) (I 114 c.toNatClampNeg)))) (lL (w_ah N c k) L L) (mR (uM (w_ah N c k) (mm_u I 114 c.toNatClampNeg k) I) C)) := by
  have m0 : J 108 0 = nI N := (hs.r (by decide)).trans v.2.2.1
  have m1 : J 108 1 = nI S := (hs.r (by decide)).trans v.2.2.2.1
  refine cP.of_gP (d := d + 2) me_149 ⟨Nat.le_of_ble_eq_true rfl, rfl⟩ ?_
  show gP mm_cs0 _ _ _ _ _ _ [some (.ref _), some (.int _), some (.int _), none] [] _ _
  refine gp_aload_n dX9_ahead_0 rfl ?_
  refine gp_iload_n dX9_ahead_1 rfl ?_
  refine gp_call (kind := 1) (args := [.ref _, .int _]) (rest := _) dX9_ahead_2 (Or.inr (Or.inl ⟨rfl, rfl⟩)) mk_9_131 (by decide) me_130 rfl rfl rfl rfl rfl (mm_rc_of (by first | rfl | assumption | (simp only [*]; done))) (ok_X9_isChild _ _ _ _) rfl ?_
  refine gp_ifc (t := 14) dX9_ahead_5 (by decide) c1_ne (fun h1 => ?_) (fun h1 => ?_)
  · (try simp only [bi_0, bi_1, Classical.not_not, m0, m1] at h1)
    refine gp_iload_n dX9_ahead_14 rfl ?_
    refine gp_ifc (t := 24) dX9_ahead_15 (by decide) c1_lt (fun h2 => ?_) (fun h2 => ?_)
    · have h2' := Int32.not_le.mpr h2
      (try simp only [bi_0, bi_1, Classical.not_not, m0, m1] at h2)
      refine gp_aload_n dX9_ahead_24 rfl ?_
      refine gp_pu (st' := .int (-6) :: _) dX9_ahead_25 rfl ?_
      refine gp_call (kind := 1) (args := [.ref _, .int _]) (rest := _) dX9_ahead_27 (Or.inr (Or.inl ⟨rfl, rfl⟩)) mk_9_127 (by decide) me_127 rfl rfl rfl rfl rfl (mm_rc_of (by first | rfl | assumption | (simp only [*]; done))) (ok_X9_no _ _ _ _ (by decide)) rfl ?_
      refine gp_iret dX9_ahead_30 rfl ?_
      first | (refine uMo ?zqa (by unfold isW; decide) hs; (case zqa => ((simp [w_ah, *]; done))))
    · have h2' := Int32.not_lt.mp h2
      (try simp only [bi_0, bi_1, Classical.not_not, m0, m1] at h2)
      refine gp_iload_n dX9_ahead_18 rfl ?_
      refine gp_pu (st' := .int (99) :: _) dX9_ahead_19 rfl ?_
      refine gp_icc (t := 31) dX9_ahead_21 (by decide) c2_le (fun h3 => ?_) (fun h3 => ?_)
      · have h3' := Int32.not_lt.mpr h3
        (try simp only [bi_0, bi_1, Classical.not_not, m0, m1] at h3)
        have zqm1 := v.in8 (c := c) (by assumption)
        refine gp_aload_n dX9_ahead_31 rfl ?_
        refine gp_gr dX9_ahead_32 mf_9_44 rfl (by first | rfl | assumption | (simp only [*]; done)) (by first | rfl | assumption | (simp only [*]; done)) ?_
        refine gp_iload_n dX9_ahead_35 rfl ?_
        refine gp_ialv dX9_ahead_36 rfl (by first | rfl | assumption | (simp only [*]; done)) (by first | rfl | assumption | (simp only [*]; done)) (by first | exact hs.1 _ _ rfl | exact rfl) ?_
        refine gp_istore_n (ls' := [some (.ref _), some (.int _), some (.int _), some (.int _)]) dX9_ahead_37 rfl (Nat.le_of_ble_eq_true rfl) ?_
        refine gp_aload_n dX9_ahead_38 rfl ?_
        refine gp_gr dX9_ahead_39 mf_9_44 rfl (by first | rfl | assumption | (simp only [*]; done)) (by first | rfl | assumption | (simp only [*]; done)) ?_
        refine gp_iload_n dX9_ahead_42 rfl ?_
        refine gp_iload_n dX9_ahead_43 rfl ?_
        refine gp_ias dX9_ahead_44 (by first | rfl | assumption | (simp only [*]; done)) (by first | rfl | assumption | (simp only [*]; done)) ?_
        refine gp_iload_n dX9_ahead_45 rfl ?_
        refine gp_iret dX9_ahead_46 rfl ?_
        first | (refine uMk ?zqa ?zqb (hs.uu (by decide)); (case zqa => ((simp [w_ah, *]; done))); (case zqb => (exact rfl)))
      · have h3' := Int32.not_le.mp h3
        (try simp only [bi_0, bi_1, Classical.not_not, m0, m1] at h3)
        refine gp_aload_n dX9_ahead_24 rfl ?_
        refine gp_pu (st' := .int (-6) :: _) dX9_ahead_25 rfl ?_
        refine gp_call (kind := 1) (args := [.ref _, .int _]) (rest := _) dX9_ahead_27 (Or.inr (Or.inl ⟨rfl, rfl⟩)) mk_9_127 (by decide) me_127 rfl rfl rfl rfl rfl (mm_rc_of (by first | rfl | assumption | (simp only [*]; done))) (ok_X9_no _ _ _ _ (by decide)) rfl ?_
        refine gp_iret dX9_ahead_30 rfl ?_
        first | (refine uMo ?zqa (by unfold isW; decide) hs; (case zqa => ((simp [w_ah, *]; done))))
  · (try simp only [bi_0, bi_1, Classical.not_not, m0, m1] at h1)
    refine gp_aload_n dX9_ahead_8 rfl ?_
    refine gp_pu (st' := .int (-1) :: _) dX9_ahead_9 rfl ?_
    refine gp_call (kind := 1) (args := [.ref _, .int _]) (rest := _) dX9_ahead_10 (Or.inr (Or.inl ⟨rfl, rfl⟩)) mk_9_127 (by decide) me_127 rfl rfl rfl rfl rfl (mm_rc_of (by first | rfl | assumption | (simp only [*]; done))) (ok_X9_no _ _ _ _ (by decide)) rfl ?_
    refine gp_iret dX9_ahead_13 rfl ?_
    first | (refine uMo ?zqa (by unfold isW; decide) hs; (case zqa => ((simp [w_ah, *]; done))))

theorem eq_ahead (c k : Int32) : eqc 72 149 [.int c, .int k] := by
  refine eqc_u fun I L hR => ?_
  have hR0 := hR
  obtain ⟨N, S, hb, hS, hL, hK, hT, hW, hE⟩ := hR
  refine ⟨_, w_ah N c k, mm_u I (5 + c.toNatClampNeg) 4 k, mm_u I 114 c.toNatClampNeg k, (fun L => L), (fun L => L), w_ah_w N c k, fun hw => ?_, cl_ahead 37 hb, fun C J K hs => ml_ahead 37 hb.1 hs, fun hw => ?_⟩
  · have h8 := (hb.cl (w_ah_0 hw).1).2.1
    exact fun k hk => mm_u_k _ _ _ (by omega)
  · have h8 := (hb.cl (w_ah_0 hw).1).2.1
    exact hR0.now2 (hb.1.ch (j := 4) (by decide) ⟨fun z => absurd z (by decide), fun z => absurd z (by decide), fun z => absurd z (by decide), fun z => absurd z (by decide), fun _ => (w_ah_0 hw).2⟩) (hb.2.ch (f := 1) (j := 4) _ h8 (by decide)) (by rw [mm_u_o _ _ _ _ (by decide)]; exact Int32.le_refl _) (fun k a b => mm_u_k _ _ _ (by omega)) (fun k a b => mm_u_k _ _ _ (by omega)) rfl rfl rfl

set_option maxHeartbeats 400000 in
theorem cl_roll (d : Nat) (hb : bR I N S) {b : Int32} (hb01 : b = 0 ∨ b = 1) : cP (d + 2) 74 [.ref 0, .int b] (mm_sh, mm_R, I, L) (pX (some (.int (vq 0 (I 108 6)))) (lL 0 L L) (sc (uC 0 (mm_u I 1 5 b) I))) := by
  have hs := sc.rf I
  have e11 : I 1 1 = nI N := hb.c11 hs
  have e13 : I 1 3 = nI S := hb.c13 hs
  refine cP.of_gP (d := d + 1) me_74 ⟨Nat.le_of_ble_eq_true rfl, rfl⟩ ?_
  show gP mm_cs0 _ _ _ _ _ _ [some (.ref _), some (.int _), none] [] _ _
  refine gp_aload_n dX8_roll_0 rfl ?_
  refine gp_gr dX8_roll_1 mf_8_10 rfl (by first | rfl | assumption | (simp only [*]; done)) (by first | rfl | assumption | (simp only [*]; done)) ?_
  refine gp_giv dX8_roll_4 mf_8_233 (by decide) (by first | rfl | assumption | (simp only [*]; done)) (by first | exact hb.c15 hs | exact rfl) ?_
  refine gp_istore_n (ls' := [some (.ref _), some (.int _), some (.int _)]) dX8_roll_7 rfl (Nat.le_of_ble_eq_true rfl) ?_
  refine gp_aload_n dX8_roll_8 rfl ?_
  refine gp_gr dX8_roll_9 mf_8_10 rfl (by first | rfl | assumption | (simp only [*]; done)) (by first | rfl | assumption | (simp only [*]; done)) ?_
  refine gp_iload_n dX8_roll_12 rfl ?_
  refine gp_pz dX8_roll_13 mf_8_233 rfl rfl (by first | exact Or.inl rfl | exact Or.inr rfl | assumption) (by first | rfl | assumption | (simp only [*]; done)) ?_
  refine gp_iload_n dX8_roll_16 rfl ?_
  refine gp_call (kind := 0) (args := [.int _]) (rest := _) dX8_roll_17 (Or.inl ⟨rfl, rfl⟩) mk_8_237 (by decide) me_105 rfl rfl rfl rfl rfl rfl (ok_X8_bit _ _ _ _) rfl ?_
  refine gp_iret dX8_roll_20 rfl ?_
  first | (refine uOk ?zqa ?zqb (sc.rf _); (case zqa => (exact rfl)); (case zqb => (exact (bit_rl hb.rl).symm)))

set_option maxHeartbeats 400000 in
theorem ml_roll (d : Nat) (v : vN I N S) (hs : mR I C J) {b : Int32} (hb01 : b = 0 ∨ b = 1) : cP (d + 2) 154 [.ref 108, .int b] (mm_sh, mm_R, J, L) (pX (some (.int (vq 0 (I 108 6)))) (lL 0 L L) (mR (uM 0 (mm_u I 108 6 b) I) C)) := by
  have m0 : J 108 0 = nI N := (hs.r (by decide)).trans v.2.2.1
  have m1 : J 108 1 = nI S := (hs.r (by decide)).trans v.2.2.2.1
  refine cP.of_gP (d := d + 1) me_154 ⟨Nat.le_of_ble_eq_true rfl, rfl⟩ ?_
  show gP mm_cs0 _ _ _ _ _ _ [some (.ref _), some (.int _), none] [] _ _
  refine gp_aload_n dX9_roll_0 rfl ?_
  refine gp_giv dX9_roll_1 mf_9_170 (by decide) (by first | rfl | assumption | (simp only [*]; done)) (by first | exact hs.1 _ _ rfl | exact rfl) ?_
  refine gp_istore_n (ls' := [some (.ref _), some (.int _), some (.int _)]) dX9_roll_4 rfl (Nat.le_of_ble_eq_true rfl) ?_
  refine gp_aload_n dX9_roll_5 rfl ?_
  refine gp_iload_n dX9_roll_6 rfl ?_
  refine gp_ifc (t := 14) dX9_roll_7 (by decide) c1_eq (fun h1 => ?_) (fun h1 => ?_)
  · subst h1
    refine gp_pu (st' := .int (0) :: _) dX9_roll_14 rfl ?_
    refine gp_pi dX9_roll_15 mf_9_170 rfl rfl (by first | rfl | assumption | (simp only [*]; done)) ?_
    refine gp_iload_n dX9_roll_18 rfl ?_
    refine gp_iret dX9_roll_19 rfl ?_
    first | (refine uMk ?zqa ?zqb (hs.uu (by decide)); (case zqa => (exact rfl)); (case zqb => (exact rfl)))
  · obtain rfl := hb01.resolve_left h1
    refine gp_pu (st' := .int (1) :: _) dX9_roll_10 rfl ?_
    refine gp_goto (t := 15) dX9_roll_11 (by decide) ?_
    refine gp_pi dX9_roll_15 mf_9_170 rfl rfl (by first | rfl | assumption | (simp only [*]; done)) ?_
    refine gp_iload_n dX9_roll_18 rfl ?_
    refine gp_iret dX9_roll_19 rfl ?_
    first | (refine uMk ?zqa ?zqb (hs.uu (by decide)); (case zqa => (exact rfl)); (case zqb => (exact rfl)))

theorem eq_roll (b : Int32) (hb01 : b = 0 ∨ b = 1) : eqc 74 154 [.int b] := by
  refine eqc_u fun I L hR => ?_
  have hR0 := hR
  obtain ⟨N, S, hb, hS, hL, hK, hT, hW, hE⟩ := hR
  refine ⟨_, 0, mm_u I 1 5 b, mm_u I 108 6 b, (fun L => L), (fun L => L), Or.inl rfl, fun hw => ?_, cl_roll 38 hb hb01, fun C J K hs => ml_roll 38 hb.1 hs hb01, fun hw => ?_⟩
  · exact fun k hk => mm_u_k _ _ _ (by omega)
  · exact hR0.now2 (hb.1.fl (j := 6) hb.n.1 hb.n.2.1 (Nat.le_refl _) rfl rfl ⟨fun z => absurd z (by decide), fun z => absurd z (by decide), fun z => absurd z (by decide), fun z => absurd z (by decide), fun _ => hb01⟩) (hb.2.fl (p := 5) (q := 6) _ (by decide)) (Int32.le_refl _) (fun k a b => mm_u_k _ _ _ (by omega)) (fun k a b => mm_u_k _ _ _ (by omega)) rfl rfl rfl

set_option maxHeartbeats 400000 in
theorem cl_seed (d : Nat) (hb : bR I N S) {b : Int32} : cP (d + 2) 94 [.ref 0, .int b] (mm_sh, mm_R, I, L) (pX (some (.int (vq 0 (I 108 8)))) (lL 0 L L) (sc (uC 0 (mm_u I 1 7 b) I))) := by
  have hs := sc.rf I
  have e11 : I 1 1 = nI N := hb.c11 hs
  have e13 : I 1 3 = nI S := hb.c13 hs
  refine cP.of_gP (d := d + 1) me_94 ⟨Nat.le_of_ble_eq_true rfl, rfl⟩ ?_
  show gP mm_cs0 _ _ _ _ _ _ [some (.ref _), some (.int _), none] [] _ _
  refine gp_aload_n dX8_seed_0 rfl ?_
  refine gp_gr dX8_seed_1 mf_8_10 rfl (by first | rfl | assumption | (simp only [*]; done)) (by first | rfl | assumption | (simp only [*]; done)) ?_
  refine gp_giv dX8_seed_4 mf_8_340 (by decide) (by first | rfl | assumption | (simp only [*]; done)) (by first | exact hb.2.2.2.2.2.1 | exact rfl) ?_
  refine gp_istore_n (ls' := [some (.ref _), some (.int _), some (.int _)]) dX8_seed_7 rfl (Nat.le_of_ble_eq_true rfl) ?_
  refine gp_aload_n dX8_seed_8 rfl ?_
  refine gp_gr dX8_seed_9 mf_8_10 rfl (by first | rfl | assumption | (simp only [*]; done)) (by first | rfl | assumption | (simp only [*]; done)) ?_
  refine gp_iload_n dX8_seed_12 rfl ?_
  refine gp_pi dX8_seed_13 mf_8_340 rfl rfl (by first | rfl | assumption | (simp only [*]; done)) ?_
  refine gp_iload_n dX8_seed_16 rfl ?_
  refine gp_iret dX8_seed_17 rfl ?_
  first | (refine uOk ?zqa ?zqb (sc.rf _); (case zqa => (exact rfl)); (case zqb => (exact rfl)))

set_option maxHeartbeats 400000 in
theorem ml_seed (d : Nat) (v : vN I N S) (hs : mR I C J) {b : Int32} : cP (d + 2) 211 [.ref 108, .int b] (mm_sh, mm_R, J, L) (pX (some (.int (vq 0 (I 108 8)))) (lL 0 L L) (mR (uM 0 (mm_u I 108 8 b) I) C)) := by
  have m0 : J 108 0 = nI N := (hs.r (by decide)).trans v.2.2.1
  have m1 : J 108 1 = nI S := (hs.r (by decide)).trans v.2.2.2.1
  refine cP.of_gP (d := d + 1) me_211 ⟨Nat.le_of_ble_eq_true rfl, rfl⟩ ?_
  show gP mm_cs0 _ _ _ _ _ _ [some (.ref _), some (.int _), none] [] _ _
  refine gp_aload_n dX9_seed_0 rfl ?_
  refine gp_giv dX9_seed_1 mf_9_22 (by decide) (by first | rfl | assumption | (simp only [*]; done)) (by first | exact hs.1 _ _ rfl | exact rfl) ?_
  refine gp_istore_n (ls' := [some (.ref _), some (.int _), some (.int _)]) dX9_seed_4 rfl (Nat.le_of_ble_eq_true rfl) ?_
  refine gp_aload_n dX9_seed_5 rfl ?_
  refine gp_iload_n dX9_seed_6 rfl ?_
  refine gp_pi dX9_seed_7 mf_9_22 rfl rfl (by first | rfl | assumption | (simp only [*]; done)) ?_
  refine gp_iload_n dX9_seed_10 rfl ?_
  refine gp_iret dX9_seed_11 rfl ?_
  first | (refine uMk ?zqa ?zqb (hs.uu (by decide)); (case zqa => (exact rfl)); (case zqb => (exact rfl)))

theorem eq_seed (b : Int32) : eqc 94 211 [.int b] := by
  refine eqc_u fun I L hR => ?_
  have hR0 := hR
  obtain ⟨N, S, hb, hS, hL, hK, hT, hW, hE⟩ := hR
  refine ⟨_, 0, mm_u I 1 7 b, mm_u I 108 8 b, (fun L => L), (fun L => L), Or.inl rfl, fun hw => ?_, cl_seed 38 hb, fun C J K hs => ml_seed 38 hb.1 hs, fun hw => ?_⟩
  · exact fun k hk => mm_u_k _ _ _ (by omega)
  · exact hR0.now2 (hb.1.fl (j := 8) hb.n.1 hb.n.2.1 (Nat.le_refl _) rfl rfl ⟨fun z => absurd z (by decide), fun z => absurd z (by decide), fun z => absurd z (by decide), fun z => absurd z (by decide), fun z => absurd z (by decide)⟩) (hb.2.fl (p := 7) (q := 8) _ (by decide)) (Int32.le_refl _) (fun k a b => mm_u_k _ _ _ (by omega)) (fun k a b => mm_u_k _ _ _ (by omega)) rfl rfl rfl
end P65
