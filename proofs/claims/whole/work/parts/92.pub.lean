/-! PUBLIC METHODS: heats, the walks -/
section P92
variable {I C J : pI} {L : pL} {N S : Nat}

theorem y_lim {k : Int32} (h : ¬ k < 2) (h2 : k ≤ 4) : ∃ q, k = nI q ∧ 2 ≤ q ∧ q ≤ 4 ∧ k.toNatClampNeg = q := by
  have e2 : (2 : Int32).toInt = 2 := by decide
  have e4 : (4 : Int32).toInt = 4 := by decide
  rw [ti_lt, e2] at h
  rw [ti_le, e4] at h2
  have : k.toInt = 2 ∨ k.toInt = 3 ∨ k.toInt = 4 := by omega
  rcases this with z | z | z
  · exact ⟨2, ti_eq.mpr z, by omega, by omega, by rw [show k = 2 from ti_eq.mpr z]; decide⟩
  · exact ⟨3, ti_eq.mpr z, by omega, by omega, by rw [show k = 3 from ti_eq.mpr z]; decide⟩
  · exact ⟨4, ti_eq.mpr z, by omega, by omega, by rw [show k = 4 from ti_eq.mpr z]; decide⟩
def w_ht (N : Nat) (k w : Int32) : Int32 := if w < 0 then -5 else if 1 < w then -5 else if N = 0 then -5 else if k < 2 then -6 else if k ≤ 4 then 0 else -6
theorem w_ht_w (N : Nat) (k w : Int32) : w_ht N k w = 0 ∨ isW (w_ht N k w) := by unfold w_ht; (repeat' split) <;> first | exact Or.inl rfl | (right; unfold isW; decide)
def q_hr (w : Int32) (r : Nat × Nat) : Int32 := if w = 0 then nI r.1 else nI r.2
def q_ht (I : pI) (N : Nat) (k w : Int32) : Int32 := q_hr w (y_ht (tC I) k.toNatClampNeg 8 N id 0)

theorem nI_le1m {m : Nat} (h : m ≤ 8) (z : m ≤ 1) : nI m ≤ 1 := by
  rw [ti_le, ti_nI (by omega)]; have e : (1 : Int32).toInt = 1 := by decide
  omega
theorem nI_le1 {m : Nat} (h : m ≤ 8) (h0 : 0 < m) (z : nI m ≤ 1) : m ≤ 1 := by
  rw [ti_le, ti_nI (by omega)] at z
  have e : (1 : Int32).toInt = 1 := by decide
  omega

set_option maxHeartbeats 400000 in
theorem lp_chr (d : Nat) {k : Nat} (hk2 : 2 ≤ k) (hk4 : k ≤ 4) (hN8 : N ≤ 8) (w : Int32) : ∀ (n i : Nat) (m x : Nat) (g : Nat → Nat) (J : pI), i + n = 8 → m ≤ 8 → 0 < m → (∀ j, j < m → g j < N) → sc I J → (∀ c, c < N → J 73 c = tC I c) → (∀ j, j < m → J 74 j = nI (g j)) → gP mm_cs0 (d + 2) 8 false (some .int) cX8_heats 87 [some (.ref 0), some (.int (nI k)), some (.int w), some (.int (nI m)), some (.int (nI x)), some (.int (nI i))] [] (mm_sh, mm_R, J, L) (pX (some (.int (q_hr w (y_ht (tC I) k n m g x)))) L (sc I)) := by
  intro n
  induction n with
  | zero =>
    intro i m x g J hi hm hm9 hg hsJ h73 h74
    obtain rfl : i = 8 := by omega
    have z0 : J 74 (0 : Int32).toNatClampNeg = nI (g 0) := h74 0 hm9
    have hc1 : (8 : Int32) ≤ nI 8 := by decide
    refine gp_iload dX8_heats_87 rfl ?_
    refine gp_pu (st' := .int (8) :: _) dX8_heats_89 rfl ?_
    refine gp_icc (t := 118) dX8_heats_91 (by decide) c2_ge (fun h1 => ?_) (fun h1 => ?_)
    · have h1' := Int32.not_lt.mpr h1
      (try simp only [Classical.not_not] at h1)
      refine gp_iload_n dX8_heats_118 rfl ?_
      refine gp_ifc (t := 131) dX8_heats_119 (by decide) c1_ne (fun h2 => ?_) (fun h2 => ?_)
      · (try simp only [Classical.not_not] at h2)
        refine gp_iload dX8_heats_131 rfl ?_
        refine gp_iret dX8_heats_133 rfl ?_
        first | (refine pX.mk (congrArg some (congrArg Value.int ?zqa)) hsJ; (case zqa => (unfold q_hr y_ht; simp only [*, if_true, if_false, ite_self]; done))) | (refine pX.mk (congrArg some (congrArg Value.int ?zqa)) hsJ; (case zqa => (have zqm := nI_le1 hm hm9 (by assumption); unfold q_hr y_ht; rw [if_pos zqm]; simp only [*, if_true, if_false]; done)))
      · (try simp only [Classical.not_not] at h2)
        refine gp_aload_n dX8_heats_122 rfl ?_
        refine gp_gr dX8_heats_123 mf_8_64 rfl (by first | rfl | assumption | (simp only [*]; done)) (by first | rfl | assumption | (simp only [*]; done)) ?_
        refine gp_pu (st' := .int (0) :: _) dX8_heats_126 rfl ?_
        refine gp_ialv dX8_heats_127 rfl (by first | rfl | assumption | (simp only [*]; done)) (by first | rfl | assumption | (simp only [*]; done)) (by first | exact z0 | exact rfl) ?_
        refine gp_goto (t := 133) dX8_heats_128 (by decide) ?_
        refine gp_iret dX8_heats_133 rfl ?_
        first | (refine pX.mk (congrArg some (congrArg Value.int ?zqa)) hsJ; (case zqa => (unfold q_hr y_ht; simp only [*, if_true, if_false, ite_self]; done))) | (refine pX.mk (congrArg some (congrArg Value.int ?zqa)) hsJ; (case zqa => (have zqm := nI_le1 hm hm9 (by assumption); unfold q_hr y_ht; rw [if_pos zqm]; simp only [*, if_true, if_false]; done)))
    · exact absurd hc1 h1
  | succ n ih =>
    intro i m x g J hi hm hm9 hg hsJ h73 h74
    have z0 : J 74 (0 : Int32).toNatClampNeg = nI (g 0) := h74 0 hm9
    have hc1 : ¬ (8 : Int32) ≤ nI i := nI_ge (b := 8) (by omega) (by omega)
    refine gp_iload dX8_heats_87 rfl ?_
    refine gp_pu (st' := .int (8) :: _) dX8_heats_89 rfl ?_
    refine gp_icc (t := 118) dX8_heats_91 (by decide) c2_ge (fun h1 => ?_) (fun h1 => ?_)
    · exact absurd h1 hc1
    · have h1' := Int32.not_le.mp h1
      (try simp only [Classical.not_not] at h1)
      refine gp_iload_n dX8_heats_94 rfl ?_
      refine gp_pu (st' := .int (1) :: _) dX8_heats_95 rfl ?_
      refine gp_icc (t := 118) dX8_heats_96 (by decide) c2_le (fun h2 => ?_) (fun h2 => ?_)
      · have h2' := Int32.not_lt.mpr h2
        (try simp only [Classical.not_not] at h2)
        refine gp_iload_n dX8_heats_118 rfl ?_
        refine gp_ifc (t := 131) dX8_heats_119 (by decide) c1_ne (fun h3 => ?_) (fun h3 => ?_)
        · (try simp only [Classical.not_not] at h3)
          refine gp_iload dX8_heats_131 rfl ?_
          refine gp_iret dX8_heats_133 rfl ?_
          first | (refine pX.mk (congrArg some (congrArg Value.int ?zqa)) hsJ; (case zqa => (unfold q_hr y_ht; simp only [*, if_true, if_false, ite_self]; done))) | (refine pX.mk (congrArg some (congrArg Value.int ?zqa)) hsJ; (case zqa => (have zqm := nI_le1 hm hm9 (by assumption); unfold q_hr y_ht; rw [if_pos zqm]; simp only [*, if_true, if_false]; done)))
        · (try simp only [Classical.not_not] at h3)
          refine gp_aload_n dX8_heats_122 rfl ?_
          refine gp_gr dX8_heats_123 mf_8_64 rfl (by first | rfl | assumption | (simp only [*]; done)) (by first | rfl | assumption | (simp only [*]; done)) ?_
          refine gp_pu (st' := .int (0) :: _) dX8_heats_126 rfl ?_
          refine gp_ialv dX8_heats_127 rfl (by first | rfl | assumption | (simp only [*]; done)) (by first | rfl | assumption | (simp only [*]; done)) (by first | exact z0 | exact rfl) ?_
          refine gp_goto (t := 133) dX8_heats_128 (by decide) ?_
          refine gp_iret dX8_heats_133 rfl ?_
          first | (refine pX.mk (congrArg some (congrArg Value.int ?zqa)) hsJ; (case zqa => (unfold q_hr y_ht; simp only [*, if_true, if_false, ite_self]; done))) | (refine pX.mk (congrArg some (congrArg Value.int ?zqa)) hsJ; (case zqa => (have zqm := nI_le1 hm hm9 (by assumption); unfold q_hr y_ht; rw [if_pos zqm]; simp only [*, if_true, if_false]; done)))
      · have h2' := Int32.not_le.mp h2
        (try simp only [Classical.not_not] at h2)
        refine gp_aload_n dX8_heats_99 rfl ?_
        refine gp_iload_n dX8_heats_100 rfl ?_
        refine gp_iload_n dX8_heats_101 rfl ?_
        refine gp_callX (kind := 1) (args := [.ref _, .int _, .int _]) (rest := _) dX8_heats_102 (Or.inr (Or.inl ⟨rfl, rfl⟩)) mk_8_316 (by decide) me_120 rfl rfl rfl rfl rfl (mm_rc_of (by first | rfl | assumption | (simp only [*]; done))) (ct_hor _ hsJ hN8 hk2 hk4 hm hm9 (tC I) g hg h73 h74) ?_
        intro K1 hK1
        refine gp_istore_n (ls' := [some (.ref _), some (.int _), some (.int _), some (.int _), some (.int _), some (.int _)]) dX8_heats_105 rfl (Nat.le_of_ble_eq_true rfl) ?_
        refine gp_iload dX8_heats_106 rfl ?_
        refine gp_iload_n dX8_heats_108 rfl ?_
        refine gp_pu (st' := .int _ :: _) dX8_heats_109 rfl ?_
        refine gp_istore (ls' := [some (.ref _), some (.int _), some (.int _), some (.int _), some (.int _), some (.int _)]) dX8_heats_110 rfl (Nat.le_of_ble_eq_true rfl) ?_
        refine gp_iinc (v := (1)) (ls' := [some (.ref _), some (.int _), some (.int _), some (.int _), some (.int _), some (.int _)]) dX8_heats_112 rfl (by decide) rfl ?_
        refine gp_goto (t := 87) dX8_heats_115 (by decide) ?_
        (rw [nI_1, nI_add]
         have zqm : ¬ m ≤ 1 := fun z => h2 (nI_le1m hm z)
         obtain ⟨zq1, zq2, zq3, zq4⟩ := y_ng_in (T := tC I) hk2 hm hm9 hg
         have ih' := ih (i + 1) (y_nh m k) (x + y_nh m k) (y_ng (tC I) g m k) K1 (by omega) (by omega) zq3 (fun j hj => zq1 j (by omega)) hK1.1 hK1.2.1 (fun j hj => hK1.2.2 j (by omega))
         rw [show y_ht (tC I) k (n + 1) m g x = y_ht (tC I) k n (y_nh m k) (y_ng (tC I) g m k) (x + y_nh m k) from if_neg zqm]
         exact ih')

set_option maxHeartbeats 400000 in
theorem lp_chi (d : Nat) (hb : bR I N S) {k : Nat} (hk2 : 2 ≤ k) (hk4 : k ≤ 4) (hN8 : N ≤ 8) (h0 : 0 < N) (w : Int32) : ∀ (n i : Nat) (J : pI), i + n = N → sc I J → (∀ c, c < N → J 73 c = tC I c) → (∀ j, j < i → J 74 j = nI j) → gP mm_cs0 (d + 2) 8 false (some .int) cX8_heats 49 [some (.ref 0), some (.int (nI k)), some (.int w), some (.int (nI i)), none, none] [] (mm_sh, mm_R, J, L) (pX (some (.int (q_hr w (y_ht (tC I) k 8 N id 0)))) L (sc I)) := by
  intro n
  induction n with
  | zero =>
    intro i J hi hsJ h73 h74
    obtain rfl : i = N := by omega
    have hc1 : nI i ≤ nI i := Int32.le_refl _
    refine gp_iload_n dX8_heats_49 rfl ?_
    refine gp_aload_n dX8_heats_50 rfl ?_
    refine gp_gr dX8_heats_51 mf_8_10 rfl (by first | rfl | assumption | (simp only [*]; done)) (by first | rfl | assumption | (simp only [*]; done)) ?_
    refine gp_giv dX8_heats_54 mf_8_154 (by decide) (by first | rfl | assumption | (simp only [*]; done)) (by first | exact hb.c11 hsJ | exact rfl) ?_
    refine gp_icc (t := 73) dX8_heats_57 (by decide) c2_ge (fun h1 => ?_) (fun h1 => ?_)
    · have h1' := Int32.not_lt.mpr h1
      refine gp_aload_n dX8_heats_73 rfl ?_
      refine gp_gr dX8_heats_74 mf_8_10 rfl (by first | rfl | assumption | (simp only [*]; done)) (by first | rfl | assumption | (simp only [*]; done)) ?_
      refine gp_giv dX8_heats_77 mf_8_154 (by decide) (by first | rfl | assumption | (simp only [*]; done)) (by first | exact hb.c11 hsJ | exact rfl) ?_
      refine gp_istore_n (ls' := [some (.ref _), some (.int _), some (.int _), some (.int _), none, none]) dX8_heats_80 rfl (Nat.le_of_ble_eq_true rfl) ?_
      refine gp_pu (st' := .int (0) :: _) dX8_heats_81 rfl ?_
      refine gp_istore (ls' := [some (.ref _), some (.int _), some (.int _), some (.int _), some (.int _), none]) dX8_heats_82 rfl (Nat.le_of_ble_eq_true rfl) ?_
      refine gp_pu (st' := .int (0) :: _) dX8_heats_84 rfl ?_
      refine gp_istore (ls' := [some (.ref _), some (.int _), some (.int _), some (.int _), some (.int _), some (.int _)]) dX8_heats_85 rfl (Nat.le_of_ble_eq_true rfl) ?_
      exact lp_chr d hk2 hk4 hN8 w 8 0 i 0 id J (by omega) hN8 h0 (fun j hj => hj) hsJ h73 h74
    · exact absurd hc1 h1
  | succ n ih =>
    intro i J hi hsJ h73 h74
    have hc1 : ¬ nI N ≤ nI i := nI_ge (by omega) (by omega)
    have zqi : mm_in (nI i) 8 = true := hb.1.in8 (ch_n hb.1 (show i < N by omega))
    refine gp_iload_n dX8_heats_49 rfl ?_
    refine gp_aload_n dX8_heats_50 rfl ?_
    refine gp_gr dX8_heats_51 mf_8_10 rfl (by first | rfl | assumption | (simp only [*]; done)) (by first | rfl | assumption | (simp only [*]; done)) ?_
    refine gp_giv dX8_heats_54 mf_8_154 (by decide) (by first | rfl | assumption | (simp only [*]; done)) (by first | exact hb.c11 hsJ | exact rfl) ?_
    refine gp_icc (t := 73) dX8_heats_57 (by decide) c2_ge (fun h1 => ?_) (fun h1 => ?_)
    · exact absurd h1 hc1
    · have h1' := Int32.not_le.mp h1
      refine gp_aload_n dX8_heats_60 rfl ?_
      refine gp_gr dX8_heats_61 mf_8_64 rfl (by first | rfl | assumption | (simp only [*]; done)) (by first | rfl | assumption | (simp only [*]; done)) ?_
      refine gp_iload_n dX8_heats_64 rfl ?_
      refine gp_iload_n dX8_heats_65 rfl ?_
      refine gp_ias dX8_heats_66 (by first | rfl | assumption | (simp only [*]; done)) zqi ?_
      refine gp_iinc (v := (1)) (ls' := [some (.ref _), some (.int _), some (.int _), some (.int _), none, none]) dX8_heats_67 rfl (by decide) rfl ?_
      refine gp_goto (t := 49) dX8_heats_70 (by decide) ?_
      (rw [nI_1]
       refine ih (i + 1) _ (by omega) (hsJ.u rfl) (fun c hc => by rw [mm_u_o _ _ _ _ (by decide)]; exact h73 c hc) (fun j hj => ?_)
       rw [nI_clamp (by omega), mm_u_i]
       by_cases y : j = i
       · rw [if_pos ⟨rfl, y⟩, y]
       · rw [if_neg (fun z => y z.2)]; exact h74 j (by omega))

set_option maxHeartbeats 400000 in
theorem cl_heats (d : Nat) (hb : bR I N S) {k w : Int32} : cP (d + 7) 86 [.ref 0, .int k, .int w] (mm_sh, mm_R, I, L) (pX (some (.int (vq (w_ht N k w) (q_ht I N k w)))) L (sc (rI I (w_ht N k w)))) := by
  have hs := sc.rf I
  have e11 : I 1 1 = nI N := hb.c11 hs
  have e13 : I 1 3 = nI S := hb.c13 hs
  refine cP.of_gP (d := d + 6) me_86 ⟨Nat.le_of_ble_eq_true rfl, rfl⟩ ?_
  show gP mm_cs0 _ _ _ _ _ _ [some (.ref _), some (.int _), some (.int _), none, none, none] [] _ _
  refine gp_iload_n dX8_heats_0 rfl ?_
  refine gp_ifc (t := 19) dX8_heats_1 (by decide) c1_lt (fun h1 => ?_) (fun h1 => ?_)
  · have h1' := Int32.not_le.mpr h1
    (try simp only [nI_0f hb.n.1, Classical.not_not, e11] at h1)
    refine gp_aload_n dX8_heats_19 rfl ?_
    refine gp_pu (st' := .int (-5) :: _) dX8_heats_20 rfl ?_
    refine gp_call (kind := 1) (args := [.ref _, .int _]) (rest := _) dX8_heats_22 (Or.inr (Or.inl ⟨rfl, rfl⟩)) mk_8_79 (by decide) me_100 rfl rfl rfl rfl rfl (mm_rc_of (by first | rfl | assumption | (simp only [*]; done))) (ok_X8_refuse _ _ _ _) rfl ?_
    refine gp_iret dX8_heats_25 rfl ?_
    (refine cNo ?zqa ?zqc; (case zqa => (first | ((simp [w_ht, *]; done)) | (exfalso; first | contradiction | (simp_all; done)))); (case zqc => (unfold isW; decide)))
  · have h1' := Int32.not_lt.mp h1
    (try simp only [nI_0f hb.n.1, Classical.not_not, e11] at h1)
    refine gp_iload_n dX8_heats_4 rfl ?_
    refine gp_pu (st' := .int (1) :: _) dX8_heats_5 rfl ?_
    refine gp_icc (t := 19) dX8_heats_6 (by decide) c2_gt (fun h2 => ?_) (fun h2 => ?_)
    · have h2' := Int32.not_le.mpr h2
      (try simp only [nI_0f hb.n.1, Classical.not_not, e11] at h2)
      refine gp_aload_n dX8_heats_19 rfl ?_
      refine gp_pu (st' := .int (-5) :: _) dX8_heats_20 rfl ?_
      refine gp_call (kind := 1) (args := [.ref _, .int _]) (rest := _) dX8_heats_22 (Or.inr (Or.inl ⟨rfl, rfl⟩)) mk_8_79 (by decide) me_100 rfl rfl rfl rfl rfl (mm_rc_of (by first | rfl | assumption | (simp only [*]; done))) (ok_X8_refuse _ _ _ _) rfl ?_
      refine gp_iret dX8_heats_25 rfl ?_
      (refine cNo ?zqa ?zqc; (case zqa => (first | ((simp [w_ht, *]; done)) | (exfalso; first | contradiction | (simp_all; done)))); (case zqc => (unfold isW; decide)))
    · have h2' := Int32.not_lt.mp h2
      (try simp only [nI_0f hb.n.1, Classical.not_not, e11] at h2)
      refine gp_aload_n dX8_heats_9 rfl ?_
      refine gp_gr dX8_heats_10 mf_8_10 rfl (by first | rfl | assumption | (simp only [*]; done)) (by first | rfl | assumption | (simp only [*]; done)) ?_
      refine gp_giv dX8_heats_13 mf_8_154 (by decide) (by first | rfl | assumption | (simp only [*]; done)) (by first | exact rfl) ?_
      refine gp_ifc (t := 26) dX8_heats_16 (by decide) c1_ne (fun h3 => ?_) (fun h3 => ?_)
      · (try simp only [nI_0f hb.n.1, Classical.not_not, e11] at h3)
        refine gp_iload_n dX8_heats_26 rfl ?_
        refine gp_pu (st' := .int (2) :: _) dX8_heats_27 rfl ?_
        refine gp_icc (t := 36) dX8_heats_28 (by decide) c2_lt (fun h4 => ?_) (fun h4 => ?_)
        · have h4' := Int32.not_le.mpr h4
          (try simp only [nI_0f hb.n.1, Classical.not_not, e11] at h4)
          refine gp_aload_n dX8_heats_36 rfl ?_
          refine gp_pu (st' := .int (-6) :: _) dX8_heats_37 rfl ?_
          refine gp_call (kind := 1) (args := [.ref _, .int _]) (rest := _) dX8_heats_39 (Or.inr (Or.inl ⟨rfl, rfl⟩)) mk_8_79 (by decide) me_100 rfl rfl rfl rfl rfl (mm_rc_of (by first | rfl | assumption | (simp only [*]; done))) (ok_X8_refuse _ _ _ _) rfl ?_
          refine gp_iret dX8_heats_42 rfl ?_
          (refine cNo ?zqa ?zqc; (case zqa => (first | ((simp [w_ht, *]; done)) | (exfalso; first | contradiction | (simp_all; done)))); (case zqc => (unfold isW; decide)))
        · have h4' := Int32.not_lt.mp h4
          (try simp only [nI_0f hb.n.1, Classical.not_not, e11] at h4)
          refine gp_iload_n dX8_heats_31 rfl ?_
          refine gp_pu (st' := .int (4) :: _) dX8_heats_32 rfl ?_
          refine gp_icc (t := 43) dX8_heats_33 (by decide) c2_le (fun h5 => ?_) (fun h5 => ?_)
          · have h5' := Int32.not_lt.mpr h5
            (try simp only [nI_0f hb.n.1, Classical.not_not, e11] at h5)
            refine gp_aload_n dX8_heats_43 rfl ?_
            refine gp_callX (kind := 1) (args := [.ref _]) (rest := _) dX8_heats_44 (Or.inr (Or.inl ⟨rfl, rfl⟩)) mk_8_271 (by decide) me_114 rfl rfl rfl rfl rfl (mm_rc_of (by first | rfl | assumption | (simp only [*]; done))) (ct_timeAll _ hb) ?_
            intro K1 hK1
            refine gp_pu (st' := .int (0) :: _) dX8_heats_47 rfl ?_
            refine gp_istore_n (ls' := [some (.ref _), some (.int _), some (.int _), some (.int _), none, none]) dX8_heats_48 rfl (Nat.le_of_ble_eq_true rfl) ?_
            (have hw : w_ht N k w = 0 := by simp [w_ht, *]
             rw [hw]
             obtain ⟨q, e1, e2, e3, e4⟩ := y_lim (k := k) (by assumption) (by assumption)
             rw [show q_ht I N k w = q_hr w (y_ht (tC I) q 8 N id 0) by rw [q_ht, e4]]
             rw [e1]
             exact lp_chi (d + 4) hb e2 e3 hb.n.1 (by omega) w N 0 K1 (by omega) hK1.1 hK1.2 (fun j hj => absurd hj (by omega)))
          · have h5' := Int32.not_le.mp h5
            (try simp only [nI_0f hb.n.1, Classical.not_not, e11] at h5)
            refine gp_aload_n dX8_heats_36 rfl ?_
            refine gp_pu (st' := .int (-6) :: _) dX8_heats_37 rfl ?_
            refine gp_call (kind := 1) (args := [.ref _, .int _]) (rest := _) dX8_heats_39 (Or.inr (Or.inl ⟨rfl, rfl⟩)) mk_8_79 (by decide) me_100 rfl rfl rfl rfl rfl (mm_rc_of (by first | rfl | assumption | (simp only [*]; done))) (ok_X8_refuse _ _ _ _) rfl ?_
            refine gp_iret dX8_heats_42 rfl ?_
            (refine cNo ?zqa ?zqc; (case zqa => (first | ((simp [w_ht, *]; done)) | (exfalso; first | contradiction | (simp_all; done)))); (case zqc => (unfold isW; decide)))
      · (try simp only [nI_0f hb.n.1, Classical.not_not, e11] at h3)
        refine gp_aload_n dX8_heats_19 rfl ?_
        refine gp_pu (st' := .int (-5) :: _) dX8_heats_20 rfl ?_
        refine gp_call (kind := 1) (args := [.ref _, .int _]) (rest := _) dX8_heats_22 (Or.inr (Or.inl ⟨rfl, rfl⟩)) mk_8_79 (by decide) me_100 rfl rfl rfl rfl rfl (mm_rc_of (by first | rfl | assumption | (simp only [*]; done))) (ok_X8_refuse _ _ _ _) rfl ?_
        refine gp_iret dX8_heats_25 rfl ?_
        (refine cNo ?zqa ?zqc; (case zqa => (first | ((simp [w_ht, *]; done)) | (exfalso; first | contradiction | (simp_all; done)))); (case zqc => (unfold isW; decide)))
end P92
