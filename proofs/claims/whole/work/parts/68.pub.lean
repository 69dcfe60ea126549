/-! PUBLIC METHODS: set, copy -/
section P68
variable {I C J : pI} {L : pL} {N S : Nat}

theorem m_want_w (I : pI) (s : Int32) : m_want I s = 0 ∨ isW (m_want I s) := by unfold m_want; (repeat' split) <;> first | exact Or.inl rfl | (right; unfold isW; decide)
theorem want_w {s : Int32} (h : ¬ m_want I s = 0) : isW (m_want I s) := (m_want_w I s).resolve_left h
theorem sh_3 {s : Nat} (h : rSh I s) : I 118 s = 0 ∨ I 118 s = 1 ∨ I 118 s = 2 := by
  rcases h with h | h | h
  · exact Or.inl h.1
  · exact Or.inr (Or.inl h.1)
  · exact Or.inr (Or.inr h.1)
theorem ti_sort {o : Int32} (h : wi o 0 3) : (100 + o).toInt = 100 + o.toInt := by
  obtain ⟨a, b⟩ := h
  rw [ti_add (by rw [ti_100]; omega) (by rw [ti_100]; omega), ti_100]
theorem sh_ch (hb : bR I N S) {s : Nat} (h : rSh I s) : (0 ≤ I (76 + 2 * s) 0 ∧ I (76 + 2 * s) 0 < 100) ↔ I 118 s = 2 := by
  rcases h with ⟨a, b, c⟩ | ⟨a, b, c, d⟩ | ⟨a, b, c, d, e⟩
  · rw [a, b]; decide
  · rw [a, c]
    constructor
    · rintro ⟨-, z⟩
      rw [ti_lt, ti_sort b, ti_100] at z
      have := b.1; omega
    · intro z; exact absurd z (by decide)
  · rw [a, b]
    refine ⟨fun _ => rfl, fun _ => ⟨d, ?_⟩⟩
    rw [hb.n.2.2.1] at e
    exact Int32.lt_trans e (nI_lt (b := 100) (by have := hb.n.1; omega) (by omega))
theorem sh_rw (hb : bR I N S) {s : Nat} (h : rSh I s) : 100 ≤ I (76 + 2 * s) 0 ↔ I 118 s = 1 := by
  rcases h with ⟨a, b, c⟩ | ⟨a, b, c, d⟩ | ⟨a, b, c, d, e⟩
  · rw [a, b]; decide
  · rw [a, c]
    refine ⟨fun _ => rfl, fun _ => ?_⟩
    rw [ti_le, ti_sort b, ti_100]
    have := b.1; omega
  · rw [a, b]
    constructor
    · intro z
      rw [hb.n.2.2.1] at e
      have e2 := Int32.lt_trans e (nI_lt (b := 100) (by have := hb.n.1; omega) (by omega))
      exact absurd z (Int32.not_le.mpr e2)
    · intro z; exact absurd z (by decide)
theorem x_why_m (hb : bR I N S) (hS : ∀ s, s < 8 → rSh I s) (s : Int32) : x_why I s = m_want I s := by
  unfold x_why m_want
  by_cases h : 0 ≤ s ∧ s < 8
  · have h5 := (sh_s h).2.2.2.2
    have q := hS _ h5
    simp only [sh_ch hb q, sh_rw hb q]
    rw [if_neg (show ¬ ¬ (0 ≤ s ∧ s < 8) from fun z => z h)]
    rcases sh_3 q with z | z | z <;> simp [z, h.1, h.2]
  · rw [if_pos h, if_pos h]
/-- what a shelf with a row shows -/
theorem want_0 (hS : ∀ s, s < 8 → rSh I s) {s : Int32} (h : m_want I s = 0) : (0 ≤ s ∧ s < 8) ∧ I 118 s.toNatClampNeg = 1 ∧ wi (I 119 s.toNatClampNeg) 0 3 ∧ I (76 + 2 * s.toNatClampNeg) 0 = 100 + I 119 s.toNatClampNeg ∧ I (76 + 2 * s.toNatClampNeg) 1 = I 120 s.toNatClampNeg ∧ wi (I 120 s.toNatClampNeg) 0 160 := by
  unfold m_want at h
  by_cases a : 0 ≤ s ∧ s < 8
  · rw [if_neg (fun z => z a)] at h
    refine ⟨a, ?_⟩
    have q := hS _ (sh_s a).2.2.2.2
    rcases q with q | q | q
    · rw [q.1] at h; exact absurd h (by decide)
    · exact q
    · rw [q.1] at h; exact absurd h (by decide)
  · rw [if_pos a] at h; exact absurd h (by decide)
theorem ct_why (d : Nat) (hb : bR I N S) (hS : ∀ s, s < 8 → rSh I s) {s : Int32} : cP (d + 2) 107 [.ref 0, .int s] (mm_sh, mm_R, I, L) (pX (some (.int (m_want I s))) L (fun K => K = I)) := cP.of_x (ok_X8_whyNoRow d I L s) (by rw [x_why_m hb hS]) rfl
theorem RR.lc {K : pL} (h : RR I L) (hK : rL K) : RR I K := by
  obtain ⟨N, S, hb, hSh, -, r⟩ := h
  exact ⟨N, S, hb, hSh, hK, r⟩
theorem mg_I (I : pI) : mg I I = I := by funext k; unfold mg; split <;> rfl

set_option maxHeartbeats 400000 in
theorem ml_wanted (d : Nat) (v : vN I N S) (hs : mR I C J) {s : Int32} : cP (d + 2) 140 [.ref 108, .int s] (mm_sh, mm_R, J, L) (pX (some (.int (m_want I s))) L (mR I C)) := by
  have m0 : J 108 0 = nI N := (hs.r (by decide)).trans v.2.2.1
  have m1 : J 108 1 = nI S := (hs.r (by decide)).trans v.2.2.2.1
  refine cP.of_gP (d := d + 1) me_140 ⟨Nat.le_of_ble_eq_true rfl, rfl⟩ ?_
  show gP mm_cs0 _ _ _ _ _ _ [some (.ref _), some (.int _)] [] _ _
  refine gp_aload_n dX9_wanted_0 rfl ?_
  refine gp_iload_n dX9_wanted_1 rfl ?_
  refine gp_call (kind := 1) (args := [.ref _, .int _]) (rest := _) dX9_wanted_2 (Or.inr (Or.inl ⟨rfl, rfl⟩)) mk_9_123 (by decide) me_129 rfl rfl rfl rfl rfl (mm_rc_of (by first | rfl | assumption | (simp only [*]; done))) (ok_X9_isShelf _ _ _ _) rfl ?_
  refine gp_ifc (t := 12) dX9_wanted_5 (by decide) c1_ne (fun h1 => ?_) (fun h1 => ?_)
  · (try simp only [bi_0, bi_1, Classical.not_not, m0, m1] at h1)
    have zqs1 := (mm_in_8 (x := s)).mpr (by assumption)
    refine gp_aload_n dX9_wanted_12 rfl ?_
    refine gp_gr dX9_wanted_13 mf_9_56 rfl (by first | rfl | assumption | (simp only [*]; done)) (by first | rfl | assumption | (simp only [*]; done)) ?_
    refine gp_iload_n dX9_wanted_16 rfl ?_
    refine gp_ialv dX9_wanted_17 rfl (by first | rfl | assumption | (simp only [*]; done)) (by first | rfl | assumption | (simp only [*]; done)) (by first | exact hs.1 _ _ rfl | exact rfl) ?_
    refine gp_pu (st' := .int (2) :: _) dX9_wanted_18 rfl ?_
    refine gp_icc (t := 27) dX9_wanted_19 (by decide) c2_ne (fun h2 => ?_) (fun h2 => ?_)
    · (try simp only [bi_0, bi_1, Classical.not_not, m0, m1] at h2)
      refine gp_aload_n dX9_wanted_27 rfl ?_
      refine gp_gr dX9_wanted_28 mf_9_56 rfl (by first | rfl | assumption | (simp only [*]; done)) (by first | rfl | assumption | (simp only [*]; done)) ?_
      refine gp_iload_n dX9_wanted_31 rfl ?_
      refine gp_ialv dX9_wanted_32 rfl (by first | rfl | assumption | (simp only [*]; done)) (by first | rfl | assumption | (simp only [*]; done)) (by first | exact hs.1 _ _ rfl | exact rfl) ?_
      refine gp_ifc (t := 41) dX9_wanted_33 (by decide) c1_ne (fun h3 => ?_) (fun h3 => ?_)
      · (try simp only [bi_0, bi_1, Classical.not_not, m0, m1] at h3)
        refine gp_pu (st' := .int (0) :: _) dX9_wanted_41 rfl ?_
        refine gp_iret dX9_wanted_42 rfl ?_
        first | (refine pX.mk (congrArg some (congrArg Value.int ?zqa)) hs; (case zqa => (first | ((simp [m_want, *]; done)) | (exfalso; contradiction))))
      · (try simp only [bi_0, bi_1, Classical.not_not, m0, m1] at h3)
        refine gp_pu (st' := .int (-3) :: _) dX9_wanted_36 rfl ?_
        refine gp_goto (t := 42) dX9_wanted_38 (by decide) ?_
        refine gp_iret dX9_wanted_42 rfl ?_
        first | (refine pX.mk (congrArg some (congrArg Value.int ?zqa)) hs; (case zqa => (first | ((simp [m_want, *]; done)) | (exfalso; contradiction))))
    · (try simp only [bi_0, bi_1, Classical.not_not, m0, m1] at h2)
      refine gp_pu (st' := .int (-2) :: _) dX9_wanted_22 rfl ?_
      refine gp_goto (t := 42) dX9_wanted_24 (by decide) ?_
      refine gp_iret dX9_wanted_42 rfl ?_
      first | (refine pX.mk (congrArg some (congrArg Value.int ?zqa)) hs; (case zqa => (first | ((simp [m_want, *]; done)) | (exfalso; contradiction))))
  · (try simp only [bi_0, bi_1, Classical.not_not, m0, m1] at h1)
    refine gp_pu (st' := .int (-1) :: _) dX9_wanted_8 rfl ?_
    refine gp_goto (t := 42) dX9_wanted_9 (by decide) ?_
    refine gp_iret dX9_wanted_42 rfl ?_
    first | (refine pX.mk (congrArg some (congrArg Value.int ?zqa)) hs; (case zqa => (first | ((simp [m_want, *]; done)) | (exfalso; contradiction))))

def y_low (o : Int32) (x : Int64) : Int64 := if o = 0 then x.toInt32.toInt8.toInt32.toInt64 else if o = 1 then x.toInt32.toInt16.toInt32.toInt64 else if o = 2 then x.toInt32.toInt64 else x
theorem y_low_x {o : Int32} (h : wi o 0 3) (x : Int64) : x_low (100 + o) x = y_low o x := by
  rcases sb_3 (x := o) (by rw [ti_lt, ti_0]; have := h.1; omega) (by rw [ti_lt, show (3 : Int32).toInt = 3 from by decide]; have := h.2; omega) with rfl | rfl | rfl | rfl
  · rfl
  · rfl
  · rfl
  · rfl
theorem isRow_w {o : Int32} (h : wi o 0 3) : isRow (100 + o) := by
  rcases sb_3 (x := o) (by rw [ti_lt, ti_0]; have := h.1; omega) (by rw [ti_lt, show (3 : Int32).toInt = 3 from by decide]; have := h.2; omega) with rfl | rfl | rfl | rfl
  · exact Or.inl rfl
  · exact Or.inr (Or.inl rfl)
  · exact Or.inr (Or.inr (Or.inl rfl))
  · exact Or.inr (Or.inr (Or.inr rfl))
def w_se (I : pI) (s i : Int32) : Int32 := if ¬ m_want I s = 0 then m_want I s else if i < 0 ∨ I 120 s.toNatClampNeg ≤ i then -5 else 0
theorem w_se_w (I : pI) (s i : Int32) : w_se I s i = 0 ∨ isW (w_se I s i) := by
  unfold w_se
  split
  · exact m_want_w I s
  · split
    · right; unfold isW; decide
    · exact Or.inl rfl
theorem i_in0 {i n : Int32} : (0 ≤ i ∧ i < n) ↔ ¬ (i < 0 ∨ n ≤ i) := by
  rw [not_or, Int32.not_lt, Int32.not_le]
theorem w_se_0 {s i : Int32} (h : w_se I s i = 0) : m_want I s = 0 ∧ ¬ i < 0 ∧ ¬ I 120 s.toNatClampNeg ≤ i := by
  unfold w_se at h
  by_cases a : m_want I s = 0
  · rw [if_neg (fun z => z a)] at h
    by_cases b : i < 0 ∨ I 120 s.toNatClampNeg ≤ i
    · rw [if_pos b] at h; exact absurd h (by decide)
    · exact ⟨a, fun z => b (Or.inl z), fun z => b (Or.inr z)⟩
  · rw [if_pos a] at h; exact absurd h a
def g_set (I : pI) (s i : Int32) (x : Int64) (L : pL) : pL := mm_u L 122 (160 * s.toNatClampNeg + i.toNatClampNeg) (y_low (I 119 s.toNatClampNeg) x)

set_option maxHeartbeats 400000 in
theorem cl_set (d : Nat) (hb : bR I N S) (hS : ∀ s, s < 8 → rSh I s) {s i : Int32} {x : Int64} : cP (d + 4) 61 [.ref 0, .int s, .int i, .long x] (mm_sh, mm_R, I, L) (pX (some (.int (vq (w_se I s i) 1))) (lL (w_se I s i) (x_put I L (76 + 2 * s.toNatClampNeg) i x) L) (sc (uC (w_se I s i) I I))) := by
  have hs := sc.rf I
  have e11 : I 1 1 = nI N := hb.c11 hs
  have e13 : I 1 3 = nI S := hb.c13 hs
  refine cP.of_gP (d := d + 3) me_61 ⟨Nat.le_of_ble_eq_true rfl, rfl⟩ ?_
  show gP mm_cs0 _ _ _ _ _ _ [some (.ref _), some (.int _), some (.int _), some (.long _), none, none] [] _ _
  refine gp_aload_n dX8_set_0 rfl ?_
  refine gp_iload_n dX8_set_1 rfl ?_
  refine gp_callX (kind := 1) (args := [.ref _, .int _]) (rest := _) dX8_set_2 (Or.inr (Or.inl ⟨rfl, rfl⟩)) mk_8_87 (by decide) me_107 rfl rfl rfl rfl rfl (mm_rc_of (by first | rfl | assumption | (simp only [*]; done))) (ct_why _ hb hS) ?_
  intro K1 hK1
  subst hK1
  refine gp_istore (ls' := [some (.ref _), some (.int _), some (.int _), some (.long _), none, some (.int _)]) dX8_set_5 rfl (Nat.le_of_ble_eq_true rfl) ?_
  refine gp_iload dX8_set_7 rfl ?_
  refine gp_ifc (t := 19) dX8_set_9 (by decide) c1_eq (fun h1 => ?_) (fun h1 => ?_)
  · (try simp only [bi_0, Classical.not_not, zqr5, i_in0] at h1)
    obtain ⟨zqr1, zqr2, zqr3, zqr4, zqr5, zqr6⟩ := want_0 hS (s := s) (by assumption)
    obtain ⟨zqs1, zqs2, zqs3, zqs4, zqs5⟩ := sh_s zqr1
    refine gp_aload_n dX8_set_19 rfl ?_
    refine gp_gr dX8_set_20 mf_8_24 rfl (by first | rfl | assumption | (simp only [*]; done)) (by first | rfl | assumption | (simp only [*]; done)) ?_
    refine gp_iload_n dX8_set_23 rfl ?_
    refine gp_aal dX8_set_24 (by first | rfl | assumption | (simp only [*]; done)) (by decide) (by first | rfl | assumption | (simp only [*]; done)) (by first | rfl | assumption | (simp only [*]; done)) ?_
    refine gp_iload_n dX8_set_25 rfl ?_
    refine gp_call (kind := 1) (args := [.ref _, .int _]) (rest := _) dX8_set_26 (Or.inr (Or.inl ⟨rfl, rfl⟩)) mk_8_90 (by decide) me_51 rfl rfl rfl rfl rfl (mm_rc_of (by first | rfl | assumption | (simp only [*]; done))) (ok_X7_has _ _ _ _ zqs4 _) rfl ?_
    refine gp_ifc (t := 39) dX8_set_29 (by decide) c1_ne (fun h2 => ?_) (fun h2 => ?_)
    · (try simp only [bi_0, Classical.not_not, zqr5, i_in0] at h2)
      refine gp_aload_n dX8_set_39 rfl ?_
      refine gp_gr dX8_set_40 mf_8_24 rfl (by first | rfl | assumption | (simp only [*]; done)) (by first | rfl | assumption | (simp only [*]; done)) ?_
      refine gp_iload_n dX8_set_43 rfl ?_
      refine gp_aal dX8_set_44 (by first | rfl | assumption | (simp only [*]; done)) (by decide) (by first | rfl | assumption | (simp only [*]; done)) (by first | rfl | assumption | (simp only [*]; done)) ?_
      refine gp_iload_n dX8_set_45 rfl ?_
      refine gp_lload_n dX8_set_46 rfl ?_
      refine gp_call (kind := 1) (args := [.ref _, .int _, .long _]) (rest := _) dX8_set_47 (Or.inr (Or.inl ⟨rfl, rfl⟩)) mk_8_93 (by decide) me_55 rfl rfl rfl rfl rfl (mm_rc_of (by first | rfl | assumption | (simp only [*]; done))) (ok_X7_put _ _ _ _ zqs3 _ _ (by rw [zqr5, ti_le]; exact zqr6.2) (by rw [zqr4]; exact isRow_w zqr3)) rfl ?_
      refine gp_pu (st' := .int (1) :: _) dX8_set_50 rfl ?_
      refine gp_iret dX8_set_51 rfl ?_
      first | (refine uOk ?zqa ?zqb (sc.rf _); (case zqa => (first | ((simp [w_se, *]; done)) | (exfalso; contradiction))); (case zqb => (exact rfl)))
    · (try simp only [bi_0, Classical.not_not, zqr5, i_in0] at h2)
      refine gp_aload_n dX8_set_32 rfl ?_
      refine gp_pu (st' := .int (-5) :: _) dX8_set_33 rfl ?_
      refine gp_call (kind := 1) (args := [.ref _, .int _]) (rest := _) dX8_set_35 (Or.inr (Or.inl ⟨rfl, rfl⟩)) mk_8_79 (by decide) me_100 rfl rfl rfl rfl rfl (mm_rc_of (by first | rfl | assumption | (simp only [*]; done))) (ok_X8_refuse _ _ _ _) rfl ?_
      refine gp_iret dX8_set_38 rfl ?_
      first | (refine uNo ?zqa ?zqc; (case zqa => (first | ((simp [w_se, *]; done)) | (exfalso; contradiction))); (case zqc => (first | (unfold isW; decide) | exact want_w (by assumption))))
  · (try simp only [bi_0, Classical.not_not, zqr5, i_in0] at h1)
    refine gp_aload_n dX8_set_12 rfl ?_
    refine gp_iload dX8_set_13 rfl ?_
    refine gp_call (kind := 1) (args := [.ref _, .int _]) (rest := _) dX8_set_15 (Or.inr (Or.inl ⟨rfl, rfl⟩)) mk_8_79 (by decide) me_100 rfl rfl rfl rfl rfl (mm_rc_of (by first | rfl | assumption | (simp only [*]; done))) (ok_X8_refuse _ _ _ _) rfl ?_
    refine gp_iret dX8_set_18 rfl ?_
    first | (refine uNo ?zqa ?zqc; (case zqa => (first | ((simp [w_se, *]; done)) | (exfalso; contradiction))); (case zqc => (first | (unfold isW; decide) | exact want_w (by assumption))))

set_option maxHeartbeats 400000 in
theorem ml_set (d : Nat) (v : vN I N S) (hs : mR I C J) (hS : ∀ s, s < 8 → rSh I s) {s i : Int32} {x : Int64} : cP (d + 2) 134 [.ref 108, .int s, .int i, .long x] (mm_sh, mm_R, J, L) (pX (some (.int (vq (w_se I s i) 1))) (lL (w_se I s i) (g_set I s i x L) L) (mR (uM (w_se I s i) I I) C)) := by
  have m0 : J 108 0 = nI N := (hs.r (by decide)).trans v.2.2.1
  have m1 : J 108 1 = nI S := (hs.r (by decide)).trans v.2.2.2.1
  refine cP.of_gP (d := d + 1) me_134 ⟨Nat.le_of_ble_eq_true rfl, rfl⟩ ?_
  show gP mm_cs0 _ _ _ _ _ _ [some (.ref _), some (.int _), some (.int _), some (.long _), none] [] _ _
  refine gp_aload_n dX9_set_0 rfl ?_
  refine gp_iload_n dX9_set_1 rfl ?_
  refine gp_call (kind := 1) (args := [.ref _, .int _]) (rest := _) dX9_set_2 (Or.inr (Or.inl ⟨rfl, rfl⟩)) mk_9_123 (by decide) me_129 rfl rfl rfl rfl rfl (mm_rc_of (by first | rfl | assumption | (simp only [*]; done))) (ok_X9_isShelf _ _ _ _) rfl ?_
  refine gp_ifc (t := 14) dX9_set_5 (by decide) c1_ne (fun h1 => ?_) (fun h1 => ?_)
  · (try simp only [bi_0, Classical.not_not, Int32.not_le] at h1)
    have zqs1 := (mm_in_8 (x := s)).mpr (by assumption)
    refine gp_aload_n dX9_set_14 rfl ?_
    refine gp_gr dX9_set_15 mf_9_56 rfl (by first | rfl | assumption | (simp only [*]; done)) (by first | rfl | assumption | (simp only [*]; done)) ?_
    refine gp_iload_n dX9_set_18 rfl ?_
    refine gp_ialv dX9_set_19 rfl (by first | rfl | assumption | (simp only [*]; done)) (by first | rfl | assumption | (simp only [*]; done)) (by first | exact hs.1 _ _ rfl | exact rfl) ?_
    refine gp_pu (st' := .int (2) :: _) dX9_set_20 rfl ?_
    refine gp_icc (t := 31) dX9_set_21 (by decide) c2_ne (fun h2 => ?_) (fun h2 => ?_)
    · (try simp only [bi_0, Classical.not_not, Int32.not_le] at h2)
      refine gp_aload_n dX9_set_31 rfl ?_
      refine gp_gr dX9_set_32 mf_9_56 rfl (by first | rfl | assumption | (simp only [*]; done)) (by first | rfl | assumption | (simp only [*]; done)) ?_
      refine gp_iload_n dX9_set_35 rfl ?_
      refine gp_ialv dX9_set_36 rfl (by first | rfl | assumption | (simp only [*]; done)) (by first | rfl | assumption | (simp only [*]; done)) (by first | exact hs.1 _ _ rfl | exact rfl) ?_
      refine gp_ifc (t := 47) dX9_set_37 (by decide) c1_ne (fun h3 => ?_) (fun h3 => ?_)
      · (try simp only [bi_0, Classical.not_not, Int32.not_le] at h3)
        have zqh1 : I 118 s.toNatClampNeg = 1 := by have := sh_3 (hS _ (sh_s (s := s) (by assumption)).2.2.2.2); simp_all
        refine gp_iload_n dX9_set_47 rfl ?_
        refine gp_ifc (t := 61) dX9_set_48 (by decide) c1_lt (fun h4 => ?_) (fun h4 => ?_)
        · have h4' := Int32.not_le.mpr h4
          (try simp only [bi_0, Classical.not_not, Int32.not_le] at h4)
          refine gp_aload_n dX9_set_61 rfl ?_
          refine gp_pu (st' := .int (-5) :: _) dX9_set_62 rfl ?_
          refine gp_call (kind := 1) (args := [.ref _, .int _]) (rest := _) dX9_set_64 (Or.inr (Or.inl ⟨rfl, rfl⟩)) mk_9_127 (by decide) me_127 rfl rfl rfl rfl rfl (mm_rc_of (by first | rfl | assumption | (simp only [*]; done))) (ok_X9_no _ _ _ _ (by decide)) rfl ?_
          refine gp_iret dX9_set_67 rfl ?_
          first | (refine uMo ?zqa ?zqc hs; (case zqa => (first | ((simp [w_se, m_want, *]; done)) | (exfalso; contradiction))); (case zqc => (unfold isW; decide)))
        · have h4' := Int32.not_lt.mp h4
          (try simp only [bi_0, Classical.not_not, Int32.not_le] at h4)
          refine gp_iload_n dX9_set_51 rfl ?_
          refine gp_aload_n dX9_set_52 rfl ?_
          refine gp_gr dX9_set_53 mf_9_62 rfl (by first | rfl | assumption | (simp only [*]; done)) (by first | rfl | assumption | (simp only [*]; done)) ?_
          refine gp_iload_n dX9_set_56 rfl ?_
          refine gp_ialv dX9_set_57 rfl (by first | rfl | assumption | (simp only [*]; done)) (by first | rfl | assumption | (simp only [*]; done)) (by first | exact hs.1 _ _ rfl | exact rfl) ?_
          refine gp_icc (t := 68) dX9_set_58 (by decide) c2_lt (fun h5 => ?_) (fun h5 => ?_)
          · have h5' := Int32.not_le.mpr h5
            (try simp only [bi_0, Classical.not_not, Int32.not_le] at h5)
            have zqi1 : i.toInt < 160 := by
              have a := Int32.not_le.mp (by assumption : ¬ I 120 s.toNatClampNeg ≤ i)
              rw [ti_lt] at a
              have := (rSh_120 (hS _ (sh_s (s := s) (by assumption)).2.2.2.2) (by assumption)).2
              omega
            obtain ⟨zqp1, zqp2⟩ := pl_160 (s := s) (i := i) (by assumption) (by assumption) zqi1
            refine gp_aload_n dX9_set_68 rfl ?_
            refine gp_gr dX9_set_69 mf_9_68 rfl (by first | rfl | assumption | (simp only [*]; done)) (by first | rfl | assumption | (simp only [*]; done)) ?_
            refine gp_pu (st' := .int (160) :: _) dX9_set_72 rfl ?_
            refine gp_iload_n dX9_set_75 rfl ?_
            refine gp_pu (st' := .int _ :: _) dX9_set_76 rfl ?_
            refine gp_iload_n dX9_set_77 rfl ?_
            refine gp_pu (st' := .int _ :: _) dX9_set_78 rfl ?_
            refine gp_aload_n dX9_set_79 rfl ?_
            refine gp_gr dX9_set_80 mf_9_59 rfl (by first | rfl | assumption | (simp only [*]; done)) (by first | rfl | assumption | (simp only [*]; done)) ?_
            refine gp_iload_n dX9_set_83 rfl ?_
            refine gp_ialv dX9_set_84 rfl (by first | rfl | assumption | (simp only [*]; done)) (by first | rfl | assumption | (simp only [*]; done)) (by first | exact hs.1 _ _ rfl | exact rfl) ?_
            refine gp_ifc (t := 95) dX9_set_85 (by decide) c1_ne (fun hh1 => ?_) (fun hh1 => ?_)
            · refine gp_aload_n dX9_set_95 rfl ?_
              refine gp_gr dX9_set_96 mf_9_59 rfl (by first | rfl | assumption | (simp only [*]; done)) (by first | rfl | assumption | (simp only [*]; done)) ?_
              refine gp_iload_n dX9_set_99 rfl ?_
              refine gp_ialv dX9_set_100 rfl (by first | rfl | assumption | (simp only [*]; done)) (by first | rfl | assumption | (simp only [*]; done)) (by first | exact hs.1 _ _ rfl | exact rfl) ?_
              refine gp_pu (st' := .int (1) :: _) dX9_set_101 rfl ?_
              refine gp_icc (t := 112) dX9_set_102 (by decide) c2_ne (fun hh2 => ?_) (fun hh2 => ?_)
              · refine gp_aload_n dX9_set_112 rfl ?_
                refine gp_gr dX9_set_113 mf_9_59 rfl (by first | rfl | assumption | (simp only [*]; done)) (by first | rfl | assumption | (simp only [*]; done)) ?_
                refine gp_iload_n dX9_set_116 rfl ?_
                refine gp_ialv dX9_set_117 rfl (by first | rfl | assumption | (simp only [*]; done)) (by first | rfl | assumption | (simp only [*]; done)) (by first | exact hs.1 _ _ rfl | exact rfl) ?_
                refine gp_pu (st' := .int (2) :: _) dX9_set_118 rfl ?_
                refine gp_icc (t := 128) dX9_set_119 (by decide) c2_ne (fun hh3 => ?_) (fun hh3 => ?_)
                · refine gp_lload_n dX9_set_128 rfl ?_
                  (refine gp_las dX9_set_129 rfl zqp1 ?_
                   refine gp_pu (st' := .int (1) :: _) dX9_set_130 rfl ?_
                   refine gp_iret dX9_set_131 rfl ?_
                   rw [zqp2]
                   have zqy : y_low (I 119 s.toNatClampNeg) x = x := by simp [y_low, *]
                   have zqg : g_set I s i x L = mm_u L 122 (160 * s.toNatClampNeg + i.toNatClampNeg) x := by unfold g_set; rw [zqy]
                   rw [← zqg]
                   exact uMk (by simp [w_se, m_want, *]) rfl hs)
                · refine gp_lload_n dX9_set_122 rfl ?_
                  refine gp_pu (st' := .int _ :: _) dX9_set_123 rfl ?_
                  refine gp_pu (st' := .long _ :: _) dX9_set_124 rfl ?_
                  refine gp_goto (t := 129) dX9_set_125 (by decide) ?_
                  (refine gp_las dX9_set_129 rfl zqp1 ?_
                   refine gp_pu (st' := .int (1) :: _) dX9_set_130 rfl ?_
                   refine gp_iret dX9_set_131 rfl ?_
                   rw [zqp2]
                   have zqy : y_low (I 119 s.toNatClampNeg) x = x.toInt32.toInt64 := by simp [y_low, *]
                   have zqg : g_set I s i x L = mm_u L 122 (160 * s.toNatClampNeg + i.toNatClampNeg) x.toInt32.toInt64 := by unfold g_set; rw [zqy]
                   rw [← zqg]
                   exact uMk (by simp [w_se, m_want, *]) rfl hs)
              · refine gp_lload_n dX9_set_105 rfl ?_
                refine gp_pu (st' := .int _ :: _) dX9_set_106 rfl ?_
                refine gp_pu (st' := .int _ :: _) dX9_set_107 rfl ?_
                refine gp_pu (st' := .long _ :: _) dX9_set_108 rfl ?_
                refine gp_goto (t := 129) dX9_set_109 (by decide) ?_
                (refine gp_las dX9_set_129 rfl zqp1 ?_
                 refine gp_pu (st' := .int (1) :: _) dX9_set_130 rfl ?_
                 refine gp_iret dX9_set_131 rfl ?_
                 rw [zqp2]
                 have zqy : y_low (I 119 s.toNatClampNeg) x = x.toInt32.toInt16.toInt32.toInt64 := by simp [y_low, *]
                 have zqg : g_set I s i x L = mm_u L 122 (160 * s.toNatClampNeg + i.toNatClampNeg) x.toInt32.toInt16.toInt32.toInt64 := by unfold g_set; rw [zqy]
                 rw [← zqg]
                 exact uMk (by simp [w_se, m_want, *]) rfl hs)
            · refine gp_lload_n dX9_set_88 rfl ?_
              refine gp_pu (st' := .int _ :: _) dX9_set_89 rfl ?_
              refine gp_pu (st' := .int _ :: _) dX9_set_90 rfl ?_
              refine gp_pu (st' := .long _ :: _) dX9_set_91 rfl ?_
              refine gp_goto (t := 129) dX9_set_92 (by decide) ?_
              (refine gp_las dX9_set_129 rfl zqp1 ?_
               refine gp_pu (st' := .int (1) :: _) dX9_set_130 rfl ?_
               refine gp_iret dX9_set_131 rfl ?_
               rw [zqp2]
               have zqy : y_low (I 119 s.toNatClampNeg) x = x.toInt32.toInt8.toInt32.toInt64 := by simp [y_low, *]
               have zqg : g_set I s i x L = mm_u L 122 (160 * s.toNatClampNeg + i.toNatClampNeg) x.toInt32.toInt8.toInt32.toInt64 := by unfold g_set; rw [zqy]
               rw [← zqg]
               exact uMk (by simp [w_se, m_want, *]) rfl hs)
          · have h5' := Int32.not_lt.mp h5
            (try simp only [bi_0, Classical.not_not, Int32.not_le] at h5)
            refine gp_aload_n dX9_set_61 rfl ?_
            refine gp_pu (st' := .int (-5) :: _) dX9_set_62 rfl ?_
            refine gp_call (kind := 1) (args := [.ref _, .int _]) (rest := _) dX9_set_64 (Or.inr (Or.inl ⟨rfl, rfl⟩)) mk_9_127 (by decide) me_127 rfl rfl rfl rfl rfl (mm_rc_of (by first | rfl | assumption | (simp only [*]; done))) (ok_X9_no _ _ _ _ (by decide)) rfl ?_
            refine gp_iret dX9_set_67 rfl ?_
            first | (refine uMo ?zqa ?zqc hs; (case zqa => (first | ((simp [w_se, m_want, *]; done)) | (exfalso; contradiction))); (case zqc => (unfold isW; decide)))
      · (try simp only [bi_0, Classical.not_not, Int32.not_le] at h3)
        refine gp_aload_n dX9_set_40 rfl ?_
        refine gp_pu (st' := .int (-3) :: _) dX9_set_41 rfl ?_
        refine gp_call (kind := 1) (args := [.ref _, .int _]) (rest := _) dX9_set_43 (Or.inr (Or.inl ⟨rfl, rfl⟩)) mk_9_127 (by decide) me_127 rfl rfl rfl rfl rfl (mm_rc_of (by first | rfl | assumption | (simp only [*]; done))) (ok_X9_no _ _ _ _ (by decide)) rfl ?_
        refine gp_iret dX9_set_46 rfl ?_
        first | (refine uMo ?zqa ?zqc hs; (case zqa => (first | ((simp [w_se, m_want, *]; done)) | (exfalso; contradiction))); (case zqc => (unfold isW; decide)))
    · (try simp only [bi_0, Classical.not_not, Int32.not_le] at h2)
      refine gp_aload_n dX9_set_24 rfl ?_
      refine gp_pu (st' := .int (-2) :: _) dX9_set_25 rfl ?_
      refine gp_call (kind := 1) (args := [.ref _, .int _]) (rest := _) dX9_set_27 (Or.inr (Or.inl ⟨rfl, rfl⟩)) mk_9_127 (by decide) me_127 rfl rfl rfl rfl rfl (mm_rc_of (by first | rfl | assumption | (simp only [*]; done))) (ok_X9_no _ _ _ _ (by decide)) rfl ?_
      refine gp_iret dX9_set_30 rfl ?_
      first | (refine uMo ?zqa ?zqc hs; (case zqa => (first | ((simp [w_se, m_want, *]; done)) | (exfalso; contradiction))); (case zqc => (unfold isW; decide)))
  · (try simp only [bi_0, Classical.not_not, Int32.not_le] at h1)
    refine gp_aload_n dX9_set_8 rfl ?_
    refine gp_pu (st' := .int (-1) :: _) dX9_set_9 rfl ?_
    refine gp_call (kind := 1) (args := [.ref _, .int _]) (rest := _) dX9_set_10 (Or.inr (Or.inl ⟨rfl, rfl⟩)) mk_9_127 (by decide) me_127 rfl rfl rfl rfl rfl (mm_rc_of (by first | rfl | assumption | (simp only [*]; done))) (ok_X9_no _ _ _ _ (by decide)) rfl ?_
    refine gp_iret dX9_set_13 rfl ?_
    first | (refine uMo ?zqa ?zqc hs; (case zqa => (first | ((simp [w_se, m_want, *]; done)) | (exfalso; contradiction))); (case zqc => (unfold isW; decide)))

theorem mm_u_ig {α : Type} (f : Nat → Nat → α) (k j a b : Nat) (v : α) : mm_u f k j v a b = if a = k ∧ b = j then v else f a b := by
  unfold mm_u
  by_cases h1 : a = k
  · by_cases h2 : b = j
    · rw [if_pos h1, if_pos h2, if_pos ⟨h1, h2⟩]
    · rw [if_pos h1, if_neg h2, if_neg (fun z => h2 z.2)]
  · rw [if_neg h1, if_neg (fun z => h1 z.1)]
theorem rL_set (hS : ∀ s, s < 8 → rSh I s) {s i : Int32} (h : m_want I s = 0) (h1 : ¬ i < 0) (h2 : ¬ I 120 s.toNatClampNeg ≤ i) (x : Int64) (hL : rL L) : rL (g_set I s i x (x_put I L (76 + 2 * s.toNatClampNeg) i x)) := by
  obtain ⟨r1, r2, r3, r4, r5, r6⟩ := want_0 hS h
  have h5 := (sh_s r1).2.2.2.2
  have hi : i.toNatClampNeg < 160 := by
    have a := Int32.not_le.mp h2
    rw [ti_lt] at a
    have := r6.2
    unfold Int32.toNatClampNeg
    omega
  intro t ht j hj
  unfold g_set x_put
  rw [r4, r5, if_pos ⟨Int32.not_lt.mp h1, Int32.not_le.mp h2⟩, y_low_x r3]
  rw [show 76 + 2 * s.toNatClampNeg + 1 = 77 + 2 * s.toNatClampNeg by omega]
  have e := hL t ht j hj
  rw [mm_u_ig, mm_u_ig, mm_u_ig, mm_u_ig, if_neg (by omega)]
  by_cases z : t = s.toNatClampNeg ∧ j = i.toNatClampNeg
  · rw [if_pos (by omega), if_pos (by omega)]
  · rw [if_neg (by omega), if_neg (by omega), if_neg (by omega)]; exact e

theorem eq_set (s i : Int32) (x : Int64) : eqc 61 134 [.int s, .int i, .long x] := by
  refine eqc_u fun I L hR => ?_
  have hR0 := hR
  obtain ⟨N, S, hb, hS, hL, hK, hT, hW, hE⟩ := hR
  refine ⟨_, w_se I s i, I, I, fun L => x_put I L (76 + 2 * s.toNatClampNeg) i x, g_set I s i x, w_se_w I s i, fun hw => ?_, cl_set 36 hb hS, fun C J K hs => ml_set 38 hb.1 hs hS, fun hw => ?_⟩
  · exact fun _ _ => rfl
  · obtain ⟨a, b, c⟩ := w_se_0 hw
    rw [mg_I]
    exact hR0.lc (rL_set hS a b c x hL)
end P68
