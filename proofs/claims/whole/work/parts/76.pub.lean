/-! PUBLIC METHODS: meant, judge -/
section P76
variable {I C J : pI} {L : pL} {N S : Nat}

/-- what the row in shelf s tells at i -/
def tld (L : pL) (s i : Nat) : Int32 := (L 122 (160 * s + i)).toInt32
def y_al (T U : Nat → Int32) : Nat → Int32
  | 0 => 1
  | n + 1 => if T n = U n then y_al T U n else 0
theorem y_al_1 (T U : Nat → Int32) (n : Nat) : (y_al T U n = 1 ∧ ∀ j, j < n → T j = U j) ∨ (y_al T U n = 0 ∧ ¬ ∀ j, j < n → T j = U j) := by
  induction n with
  | zero => exact Or.inl ⟨rfl, fun j hj => by omega⟩
  | succ n ih =>
    unfold y_al
    by_cases z : T n = U n
    · rw [if_pos z]
      rcases ih with ⟨a, b⟩ | ⟨a, b⟩
      · refine Or.inl ⟨a, fun j hj => ?_⟩
        by_cases q : j = n
        · rw [q]; exact z
        · exact b j (by omega)
      · exact Or.inr ⟨a, fun q => b (fun j hj => q j (by omega))⟩
    · rw [if_neg z]
      exact Or.inr ⟨rfl, fun q => z (q n (by omega))⟩
theorem x_aa_1 (T U : Nat → Int32) (n : Nat) : ∀ i, ((x_aa T U n i).1 = 1 ∧ ∀ j, i ≤ j → j < i + n → T j = U j) ∨ ((x_aa T U n i).1 = 0 ∧ ¬ ∀ j, i ≤ j → j < i + n → T j = U j) := by
  induction n with
  | zero => intro i; exact Or.inl ⟨rfl, fun j _ _ => by omega⟩
  | succ n ih =>
    intro i
    unfold x_aa
    by_cases z : T i = U i
    · rw [if_pos z]
      rcases ih (i + 1) with ⟨a, b⟩ | ⟨a, b⟩
      · refine Or.inl ⟨a, fun j h1 h2 => ?_⟩
        by_cases q : j = i
        · rw [q]; exact z
        · exact b j (by omega) (by omega)
      · exact Or.inr ⟨a, fun q => b (fun j h1 h2 => q j (by omega) (by omega))⟩
    · rw [if_neg z]
      exact Or.inr ⟨rfl, fun q => z (q i (by omega) (by omega))⟩
theorem x_aa_al {T U T' U' : Nat → Int32} {n : Nat} (hT : ∀ j, j < n → T j = T' j) (hU : ∀ j, j < n → U j = U' j) : (x_aa T U n 0).1 = y_al T' U' n := by
  rcases x_aa_1 T U n 0 with ⟨a, b⟩ | ⟨a, b⟩
  · rcases y_al_1 T' U' n with ⟨c, d⟩ | ⟨c, d⟩
    · rw [a, c]
    · exact absurd (fun j hj => by rw [← hT j hj, ← hU j hj]; exact b j (by omega) (by omega)) d
  · rcases y_al_1 T' U' n with ⟨c, d⟩ | ⟨c, d⟩
    · exact absurd (fun j _ hj => by rw [hT j (by omega), hU j (by omega)]; exact d j (by omega)) b
    · rw [a, c]
theorem y_al_t {T U : Nat → Int32} {n : Nat} (h : T n = U n) : y_al T U (n + 1) = y_al T U n := if_pos h
theorem y_al_f {T U : Nat → Int32} {n : Nat} (h : ¬ T n = U n) : y_al T U (n + 1) = 0 := if_neg h
theorem akM_sc (hs : sc I J) (k : Int32) (n : Nat) : sc I (x_akM J k n) := by
  induction n with
  | zero => exact hs
  | succ n ih => exact ih.ask _ _
/-- a row's element as the class reads it -/
theorem x_told_e (hS : ∀ s, s < 8 → rSh I s) (hL : rL L) (hs : sc I J) {s : Int32} (h : m_want I s = 0) {i : Nat} (hi : nI i < I 120 s.toNatClampNeg) (hi2 : i < 160) : x_told J L (76 + 2 * s.toNatClampNeg) i = tld L s.toNatClampNeg i := by
  obtain ⟨r1, r2, r3, r4, r5, r6⟩ := want_0 hS h
  have h5 := (sh_s r1).2.2.2.2
  unfold x_told x_at tld
  rw [hs _ _ (scr_c h5 1).2.2, r5, if_pos ⟨nI_pos' (by omega), hi⟩, nI_clamp (by omega), show 76 + 2 * s.toNatClampNeg + 1 = 77 + 2 * s.toNatClampNeg by omega, hL _ h5 i hi2]
theorem ct_allAsTold (d : Nat) (hb : bR I N S) (hS : ∀ s, s < 8 → rSh I s) (hL : rL L) (hs : sc I J) {s : Int32} (h : m_want I s = 0) (hn : nI N ≤ I 120 s.toNatClampNeg) {k : Nat} (hk : k < 7) : cP (d + 6) 122 [.ref 0, .ref (76 + 2 * s.toNatClampNeg), .int (nI k)] (mm_sh, mm_R, J, L) (pX (some (.int (y_al (fun c => tK I c k) (tld L s.toNatClampNeg) N))) L (sc I)) := by
  obtain ⟨r1, r2, r3, r4, r5, r6⟩ := want_0 hS h
  have h5 := (sh_s r1).2.2.2.2
  have h8 := hb.n.1
  refine cP.of_x (ok_X8_allAsTold d J L N (hb.fOk hs) (76 + 2 * s.toNatClampNeg) (sh_s r1).2.2.1 (by omega) (by rw [hs _ _ (scr_c h5 1).2.2, r5, ti_le]; exact r6.2) (nI k) (isKd_n hk)) ?_ (akM_sc hs _ _)
  rw [x_aa_al (fun j hj => ?_) (fun j hj => ?_)]
  · unfold x_akT
    rw [tim_as hb (akM_sc hs _ _) (ch_n hb.1 hj) (isKd_n hk), nI_clamp (by omega)]
    rfl
  · exact x_told_e hS hL hs h (Int32.lt_of_lt_of_le (nI_lt hj (by omega)) hn) (by omega)
def w_me (I : pI) (N : Nat) (s : Int32) : Int32 := if ¬ m_want I s = 0 then m_want I s else if I 120 s.toNatClampNeg < nI N then -5 else 0
theorem w_me_w (I : pI) (N : Nat) (s : Int32) : w_me I N s = 0 ∨ isW (w_me I N s) := by
  unfold w_me
  split
  · exact m_want_w I s
  · split
    · right; unfold isW; decide
    · exact Or.inl rfl
def mnT (I : pI) (L : pL) (N : Nat) (s : Int32) (k : Nat) : Int32 := y_al (fun c => tK I c k) (tld L s.toNatClampNeg) N
theorem y_al_01 (T U : Nat → Int32) (n : Nat) : y_al T U n = 0 ∨ y_al T U n = 1 := by
  rcases y_al_1 T U n with h | h
  · exact Or.inr h.1
  · exact Or.inl h.1
theorem yb_t {T : Nat → Int32} {n : Nat} (h : ¬ T n = 0) (h2 : T n = 0 ∨ T n = 1) : y_bits T 1 (n + 1) = y_bits T 1 n ||| ((1 : Int32) <<< (nI n &&& 31)) := y_bits_t (h2.resolve_left h)
theorem yb_f {T : Nat → Int32} {n : Nat} (h : T n = 0) : y_bits T 1 (n + 1) = y_bits T 1 n := y_bits_f (by rw [h]; decide)
theorem pl_n {s : Int32} (h : 0 ≤ s ∧ s < 8) {i : Nat} (hi : i < 160) : mm_in (160 * s + nI i) 1280 = true ∧ (160 * s + nI i).toNatClampNeg = 160 * s.toNatClampNeg + i := by
  have := pl_160 (i := nI i) h (nI_pos (by omega)) (by rw [nI_toInt (by omega)]; omega)
  rw [nI_clamp (by omega)] at this
  exact this

set_option maxHeartbeats 400000 in
theorem lp_cmean (d : Nat) (hb : bR I N S) (hS : ∀ s, s < 8 → rSh I s) (hL : rL L) {s : Int32} (hw : m_want I s = 0) (hn : nI N ≤ I 120 s.toNatClampNeg) : ∀ (n i : Nat) (J : pI), i + n = 7 → sc I J → gP mm_cs0 (d + 6) 8 false (some .int) cX8_meant 47 [some (.ref 0), some (.int s), some (.int 0), some (.int (y_bits (mnT I L N s) 1 i)), some (.int (nI i))] [] (mm_sh, mm_R, J, L) (pX (some (.int (y_bits (mnT I L N s) 1 7))) L (sc I)) := by
  intro n
  induction n with
  | zero =>
    intro i J hi hsJ
    obtain rfl : i = 7 := by omega
    have hc1 : (7 : Int32) ≤ nI 7 := by decide
    refine gp_iload dX8_meant_47 rfl ?_
    refine gp_pu (st' := .int (7) :: _) dX8_meant_49 rfl ?_
    refine gp_icc (t := 82) dX8_meant_51 (by decide) c2_ge (fun h1 => ?_) (fun h1 => ?_)
    · have h1' := Int32.not_lt.mpr h1
      refine gp_iload_n dX8_meant_82 rfl ?_
      refine gp_iret dX8_meant_83 rfl ?_
      exact pX.mk rfl hsJ
    · exact absurd hc1 h1
  | succ n ih =>
    intro i J hi hsJ
    have hc1 : ¬ (7 : Int32) ≤ nI i := nI_ge (b := 7) (by omega) (by omega)
    obtain ⟨zqr1, zqr2, zqr3, zqr4, zqr5, zqr6⟩ := want_0 hS hw
    obtain ⟨zqs1, zqs2, zqs3, zqs4, zqs5⟩ := sh_s zqr1
    refine gp_iload dX8_meant_47 rfl ?_
    refine gp_pu (st' := .int (7) :: _) dX8_meant_49 rfl ?_
    refine gp_icc (t := 82) dX8_meant_51 (by decide) c2_ge (fun h1 => ?_) (fun h1 => ?_)
    · exact absurd h1 hc1
    · have h1' := Int32.not_le.mp h1
      (try simp only [Classical.not_not] at h1)
      refine gp_aload_n dX8_meant_54 rfl ?_
      refine gp_aload_n dX8_meant_55 rfl ?_
      refine gp_gr dX8_meant_56 mf_8_24 rfl (by first | rfl | assumption | (simp only [*]; done)) (by first | rfl | assumption | (simp only [*]; done)) ?_
      refine gp_iload_n dX8_meant_59 rfl ?_
      refine gp_aal dX8_meant_60 (by first | rfl | assumption | (simp only [*]; done)) (by decide) (by first | rfl | assumption | (simp only [*]; done)) (by first | rfl | assumption | (simp only [*]; done)) ?_
      refine gp_iload dX8_meant_61 rfl ?_
      refine gp_callX (kind := 1) (args := [.ref _, .ref _, .int _]) (rest := _) dX8_meant_63 (Or.inr (Or.inl ⟨rfl, rfl⟩)) mk_8_333 (by decide) me_122 rfl rfl rfl rfl rfl (mm_rc_of (by first | rfl | assumption | (simp only [*]; done))) (ct_allAsTold _ hb hS hL hsJ hw hn (by omega)) ?_
      intro K1 hK1
      refine gp_ifc (t := 76) dX8_meant_66 (by decide) c1_eq (fun h2 => ?_) (fun h2 => ?_)
      · (try simp only [Classical.not_not] at h2)
        refine gp_iinc (v := (1)) (ls' := [some (.ref _), some (.int _), some (.int _), some (.int _), some (.int _)]) dX8_meant_76 rfl (by decide) rfl ?_
        refine gp_goto (t := 47) dX8_meant_79 (by decide) ?_
        (rw [nI_1, ← yb_f (T := mnT I L N s) h2]; exact ih (i + 1) K1 (by omega) hK1)

      · (try simp only [Classical.not_not] at h2)
        refine gp_iload_n dX8_meant_69 rfl ?_
        refine gp_pu (st' := .int (1) :: _) dX8_meant_70 rfl ?_
        refine gp_iload dX8_meant_71 rfl ?_
        refine gp_pu (st' := .int _ :: _) dX8_meant_73 rfl ?_
        refine gp_pu (st' := .int _ :: _) dX8_meant_74 rfl ?_
        refine gp_istore_n (ls' := [some (.ref _), some (.int _), some (.int _), some (.int _), some (.int _)]) dX8_meant_75 rfl (Nat.le_of_ble_eq_true rfl) ?_
        refine gp_iinc (v := (1)) (ls' := [some (.ref _), some (.int _), some (.int _), some (.int _), some (.int _)]) dX8_meant_76 rfl (by decide) rfl ?_
        refine gp_goto (t := 47) dX8_meant_79 (by decide) ?_
        (rw [nI_1, ← yb_t (T := mnT I L N s) h2 (y_al_01 _ _ _)]; exact ih (i + 1) K1 (by omega) hK1)


set_option maxHeartbeats 400000 in
theorem cl_meant (d : Nat) (hb : bR I N S) (hS : ∀ s, s < 8 → rSh I s) (hL : rL L) {s : Int32} : cP (d + 7) 90 [.ref 0, .int s] (mm_sh, mm_R, I, L) (pX (some (.int (vq (w_me I N s) (y_bits (mnT I L N s) 1 7)))) L (sc (rI I (w_me I N s)))) := by
  have hs := sc.rf I
  have e11 : I 1 1 = nI N := hb.c11 hs
  have e13 : I 1 3 = nI S := hb.c13 hs
  refine cP.of_gP (d := d + 6) me_90 ⟨Nat.le_of_ble_eq_true rfl, rfl⟩ ?_
  show gP mm_cs0 _ _ _ _ _ _ [some (.ref _), some (.int _), none, none, none] [] _ _
  refine gp_aload_n dX8_meant_0 rfl ?_
  refine gp_iload_n dX8_meant_1 rfl ?_
  refine gp_callX (kind := 1) (args := [.ref _, .int _]) (rest := _) dX8_meant_2 (Or.inr (Or.inl ⟨rfl, rfl⟩)) mk_8_87 (by decide) me_107 rfl rfl rfl rfl rfl (mm_rc_of (by first | rfl | assumption | (simp only [*]; done))) (ct_why _ hb hS) ?_
  intro K1 hK1
  rw [hK1]
  refine gp_istore_n (ls' := [some (.ref _), some (.int _), some (.int _), none, none]) dX8_meant_5 rfl (Nat.le_of_ble_eq_true rfl) ?_
  refine gp_iload_n dX8_meant_6 rfl ?_
  refine gp_ifc (t := 16) dX8_meant_7 (by decide) c1_eq (fun h1 => ?_) (fun h1 => ?_)
  · (try simp only [bi_0, Classical.not_not] at h1)
    obtain ⟨zqr1, zqr2, zqr3, zqr4, zqr5, zqr6⟩ := want_0 hS (s := s) (by assumption)
    obtain ⟨zqs1, zqs2, zqs3, zqs4, zqs5⟩ := sh_s zqr1
    refine gp_aload_n dX8_meant_16 rfl ?_
    refine gp_gr dX8_meant_17 mf_8_24 rfl (by first | rfl | assumption | (simp only [*]; done)) (by first | rfl | assumption | (simp only [*]; done)) ?_
    refine gp_iload_n dX8_meant_20 rfl ?_
    refine gp_aal dX8_meant_21 (by first | rfl | assumption | (simp only [*]; done)) (by decide) (by first | rfl | assumption | (simp only [*]; done)) (by first | rfl | assumption | (simp only [*]; done)) ?_
    refine gp_giv dX8_meant_22 mf_8_326 (by decide) (by first | rfl | assumption | (simp only [*]; done)) (by first | exact zqr5 | exact e11 | exact rfl) ?_
    refine gp_aload_n dX8_meant_25 rfl ?_
    refine gp_gr dX8_meant_26 mf_8_10 rfl (by first | rfl | assumption | (simp only [*]; done)) (by first | rfl | assumption | (simp only [*]; done)) ?_
    refine gp_giv dX8_meant_29 mf_8_154 (by decide) (by first | rfl | assumption | (simp only [*]; done)) (by first | exact zqr5 | exact e11 | exact rfl) ?_
    refine gp_icc (t := 42) dX8_meant_32 (by decide) c2_ge (fun h2 => ?_) (fun h2 => ?_)
    · have h2' := Int32.not_lt.mpr h2
      (try simp only [bi_0, Classical.not_not] at h2)
      refine gp_pu (st' := .int (0) :: _) dX8_meant_42 rfl ?_
      refine gp_istore_n (ls' := [some (.ref _), some (.int _), some (.int _), some (.int _), none]) dX8_meant_43 rfl (Nat.le_of_ble_eq_true rfl) ?_
      refine gp_pu (st' := .int (0) :: _) dX8_meant_44 rfl ?_
      refine gp_istore (ls' := [some (.ref _), some (.int _), some (.int _), some (.int _), some (.int _)]) dX8_meant_45 rfl (Nat.le_of_ble_eq_true rfl) ?_
      (have hw : w_me I N s = 0 := by (first | (simp [w_me, *]; done) | (simp_all [w_me]; done)))
      rw [hw]
      have zqm := (by assumption : m_want I s = 0)
      rw [zqm]
      exact lp_cmean d hb hS hL zqm (by assumption) 7 0 I (by omega) hs
    · have h2' := Int32.not_le.mp h2
      (try simp only [bi_0, Classical.not_not] at h2)
      refine gp_aload_n dX8_meant_35 rfl ?_
      refine gp_pu (st' := .int (-5) :: _) dX8_meant_36 rfl ?_
      refine gp_call (kind := 1) (args := [.ref _, .int _]) (rest := _) dX8_meant_38 (Or.inr (Or.inl ⟨rfl, rfl⟩)) mk_8_79 (by decide) me_100 rfl rfl rfl rfl rfl (mm_rc_of (by first | rfl | assumption | (simp only [*]; done))) (ok_X8_refuse _ _ _ _) rfl ?_
      refine gp_iret dX8_meant_41 rfl ?_
      (refine cNo ?zqa ?zqc; (case zqa => (first | ((simp [w_me, *]; done)) | (exfalso; first | contradiction | (simp_all; done)))); (case zqc => (first | (unfold isW; decide) | exact want_w (by assumption))))
  · (try simp only [bi_0, Classical.not_not] at h1)
    refine gp_aload_n dX8_meant_10 rfl ?_
    refine gp_iload_n dX8_meant_11 rfl ?_
    refine gp_call (kind := 1) (args := [.ref _, .int _]) (rest := _) dX8_meant_12 (Or.inr (Or.inl ⟨rfl, rfl⟩)) mk_8_79 (by decide) me_100 rfl rfl rfl rfl rfl (mm_rc_of (by first | rfl | assumption | (simp only [*]; done))) (ok_X8_refuse _ _ _ _) rfl ?_
    refine gp_iret dX8_meant_15 rfl ?_
    (refine cNo ?zqa ?zqc; (case zqa => (first | ((simp [w_me, *]; done)) | (exfalso; first | contradiction | (simp_all; done)))); (case zqc => (first | (unfold isW; decide) | exact want_w (by assumption))))

set_option maxHeartbeats 400000 in
theorem ml_intAt (d : Nat) (v : vN I N S) (hs : mR I C J) {s : Int32} {i : Nat} (hs8 : 0 ≤ s ∧ s < 8) (hi : i < 160) : cP (d + 1) 141 [.ref 108, .int s, .int (nI i)] (mm_sh, mm_R, J, L) (pX (some (.int (tld L s.toNatClampNeg i))) L (mR I C)) := by
  have m0 : J 108 0 = nI N := (hs.r (by decide)).trans v.2.2.1
  have m1 : J 108 1 = nI S := (hs.r (by decide)).trans v.2.2.2.1
  obtain ⟨zqp1, zqp2⟩ := pl_n hs8 hi
  refine cP.of_gP (d := d + 0) me_141 ⟨Nat.le_of_ble_eq_true rfl, rfl⟩ ?_
  show gP mm_cs0 _ _ _ _ _ _ [some (.ref _), some (.int _), some (.int _)] [] _ _
  refine gp_aload_n dX9_intAt_0 rfl ?_
  refine gp_gr dX9_intAt_1 mf_9_68 rfl (by first | rfl | assumption | (simp only [*]; done)) (by first | rfl | assumption | (simp only [*]; done)) ?_
  refine gp_pu (st' := .int (160) :: _) dX9_intAt_4 rfl ?_
  refine gp_iload_n dX9_intAt_7 rfl ?_
  refine gp_pu (st' := .int _ :: _) dX9_intAt_8 rfl ?_
  refine gp_iload_n dX9_intAt_9 rfl ?_
  refine gp_pu (st' := .int _ :: _) dX9_intAt_10 rfl ?_
  refine gp_lal dX9_intAt_11 (by first | rfl | assumption | (simp only [*]; done)) zqp1 ?_
  refine gp_pu (st' := .int _ :: _) dX9_intAt_12 rfl ?_
  refine gp_iret dX9_intAt_13 rfl ?_
  first | (refine pX.mk (congrArg some (congrArg Value.int ?zqa)) hs; (case zqa => (first | (rw [zqp2]; rfl) | (exfalso; first | contradiction | (simp_all; done)))))

set_option maxHeartbeats 400000 in
theorem lp_mmi (d : Nat) (v : vN I N S) {s b g : Int32} (hs8 : 0 ≤ s ∧ s < 8) {k : Nat} (hk7 : k < 7) (Q : Option Value → mm_M → Prop) : ∀ (n i : Nat) (J : pI), i + n = N → mR I C J → (∀ (K : pI), mR I C K → gP mm_cs0 (d + 7) 9 false (some .int) cX9_meant 90 [some (.ref 108), some (.int s), some (.int b), some (.int g), some (.int (nI k)), some (.int (y_al (fun c => tK I c k) (tld L s.toNatClampNeg) N)), some (.int (nI N))] [] (mm_sh, mm_R, K, L) Q) → gP mm_cs0 (d + 7) 9 false (some .int) cX9_meant 54 [some (.ref 108), some (.int s), some (.int b), some (.int g), some (.int (nI k)), some (.int (y_al (fun c => tK I c k) (tld L s.toNatClampNeg) i)), some (.int (nI i))] [] (mm_sh, mm_R, J, L) Q := by
  intro n
  induction n with
  | zero =>
    intro i J hi hsJ hk
    obtain rfl : i = N := by omega
    have m0 : J 108 0 = nI i := (hsJ.r (by decide)).trans v.2.2.1
    have h8 := v.1
    have hc1 : nI i ≤ nI i := Int32.le_refl _
    refine gp_iload dX9_meant_54 rfl ?_
    refine gp_aload_n dX9_meant_56 rfl ?_
    refine gp_giv dX9_meant_57 mf_9_117 (by decide) (by first | rfl | assumption | (simp only [*]; done)) (by first | exact m0 | exact rfl) ?_
    refine gp_icc (t := 90) dX9_meant_60 (by decide) c2_ge (fun h1 => ?_) (fun h1 => ?_)
    · have h1' := Int32.not_lt.mpr h1
      exact hk J hsJ
    · exact absurd hc1 h1
  | succ n ih =>
    intro i J hi hsJ hk
    have m0 : J 108 0 = nI N := (hsJ.r (by decide)).trans v.2.2.1
    have h8 := v.1
    have hc1 : ¬ nI N ≤ nI i := nI_ge (by omega) (by omega)
    refine gp_iload dX9_meant_54 rfl ?_
    refine gp_aload_n dX9_meant_56 rfl ?_
    refine gp_giv dX9_meant_57 mf_9_117 (by decide) (by first | rfl | assumption | (simp only [*]; done)) (by first | exact m0 | exact rfl) ?_
    refine gp_icc (t := 90) dX9_meant_60 (by decide) c2_ge (fun h1 => ?_) (fun h1 => ?_)
    · exact absurd h1 hc1
    · have h1' := Int32.not_le.mp h1
      (try simp only [Classical.not_not] at h1)
      refine gp_aload_n dX9_meant_63 rfl ?_
      refine gp_iload dX9_meant_64 rfl ?_
      refine gp_iload dX9_meant_66 rfl ?_
      refine gp_callX (kind := 1) (args := [.ref _, .int _, .int _]) (rest := _) dX9_meant_68 (Or.inr (Or.inl ⟨rfl, rfl⟩)) mk_9_299 (by decide) me_182 rfl rfl rfl rfl rfl (mm_rc_of (by first | rfl | assumption | (simp only [*]; done))) (mn_inAs _ v hsJ (ch_n v (show i < N by omega)) hk7) ?_
      intro K1 hK1
      rw [nI_clamp (by omega)]
      refine gp_aload_n dX9_meant_71 rfl ?_
      refine gp_iload_n dX9_meant_72 rfl ?_
      refine gp_iload dX9_meant_73 rfl ?_
      refine gp_callX (kind := 1) (args := [.ref _, .int _, .int _]) (rest := _) dX9_meant_75 (Or.inr (Or.inl ⟨rfl, rfl⟩)) mk_9_333 (by decide) me_141 rfl rfl rfl rfl rfl (mm_rc_of (by first | rfl | assumption | (simp only [*]; done))) (ml_intAt _ v hK1 hs8 (by omega)) ?_
      intro K2 hK2
      refine gp_icc (t := 84) dX9_meant_78 (by decide) c2_eq (fun h2 => ?_) (fun h2 => ?_)
      · (try simp only [Classical.not_not] at h2)
        refine gp_iinc (v := (1)) (ls' := [some (.ref _), some (.int _), some (.int _), some (.int _), some (.int _), some (.int _), some (.int _)]) dX9_meant_84 rfl (by decide) rfl ?_
        refine gp_goto (t := 54) dX9_meant_87 (by decide) ?_
        (rw [nI_1, ← y_al_t (T := fun c => tK I c k) (U := tld L s.toNatClampNeg) h2]; exact ih (i + 1) K2 (by omega) hK2 hk)

      · (try simp only [Classical.not_not] at h2)
        refine gp_pu (st' := .int (0) :: _) dX9_meant_81 rfl ?_
        refine gp_istore (ls' := [some (.ref _), some (.int _), some (.int _), some (.int _), some (.int _), some (.int _), some (.int _)]) dX9_meant_82 rfl (Nat.le_of_ble_eq_true rfl) ?_
        refine gp_iinc (v := (1)) (ls' := [some (.ref _), some (.int _), some (.int _), some (.int _), some (.int _), some (.int _), some (.int _)]) dX9_meant_84 rfl (by decide) rfl ?_
        refine gp_goto (t := 54) dX9_meant_87 (by decide) ?_
        (have ih' := ih (i + 1) K2 (by omega) hK2 hk
         rw [y_al_f (T := fun c => tK I c k) (U := tld L s.toNatClampNeg) h2] at ih'
         rw [nI_1]
         exact ih')

set_option maxHeartbeats 400000 in
theorem lp_mmo (d : Nat) (v : vN I N S) {s b : Int32} (hs8 : 0 ≤ s ∧ s < 8) : ∀ (n i : Nat) (v5 v6 : Option Value) (J : pI), i + n = 7 → mR I C J → gP mm_cs0 (d + 7) 9 false (some .int) cX9_meant 41 [some (.ref 108), some (.int s), some (.int b), some (.int (y_bits (mnT I L N s) 1 i)), some (.int (nI i)), v5, v6] [] (mm_sh, mm_R, J, L) (pX (some (.int (y_bits (mnT I L N s) 1 7))) L (mR I C)) := by
  intro n
  induction n with
  | zero =>
    intro i v5 v6 J hi hsJ
    obtain rfl : i = 7 := by omega
    have hc1 : (7 : Int32) ≤ nI 7 := by decide
    refine gp_iload dX9_meant_41 rfl ?_
    refine gp_pu (st' := .int (7) :: _) dX9_meant_43 rfl ?_
    refine gp_icc (t := 108) dX9_meant_45 (by decide) c2_ge (fun h1 => ?_) (fun h1 => ?_)
    · have h1' := Int32.not_lt.mpr h1
      refine gp_iload_n dX9_meant_108 rfl ?_
      refine gp_iret dX9_meant_109 rfl ?_
      exact pX.mk rfl hsJ
    · exact absurd hc1 h1
  | succ n ih =>
    intro i v5 v6 J hi hsJ
    have hc1 : ¬ (7 : Int32) ≤ nI i := nI_ge (b := 7) (by omega) (by omega)
    refine gp_iload dX9_meant_41 rfl ?_
    refine gp_pu (st' := .int (7) :: _) dX9_meant_43 rfl ?_
    refine gp_icc (t := 108) dX9_meant_45 (by decide) c2_ge (fun h1 => ?_) (fun h1 => ?_)
    · exact absurd h1 hc1
    · have h1' := Int32.not_le.mp h1
      refine gp_pu (st' := .int (1) :: _) dX9_meant_48 rfl ?_
      refine gp_istore (ls' := [some (.ref _), some (.int _), some (.int _), some (.int _), some (.int _), some (.int _), _]) dX9_meant_49 rfl (Nat.le_of_ble_eq_true rfl) ?_
      refine gp_pu (st' := .int (0) :: _) dX9_meant_51 rfl ?_
      refine gp_istore (ls' := [some (.ref _), some (.int _), some (.int _), some (.int _), some (.int _), some (.int _), some (.int _)]) dX9_meant_52 rfl (Nat.le_of_ble_eq_true rfl) ?_
      (refine lp_mmi d v hs8 (k := i) (by omega) _ N 0 J (by omega) hsJ ?_
       intro K hK
       refine gp_iload dX9_meant_90 rfl ?_
       refine gp_ifc (t := 102) dX9_meant_92 (by decide) c1_eq (fun h11 => ?_) (fun h11 => ?_)
       · (try simp only [Classical.not_not] at h11)
         refine gp_iinc (v := (1)) (ls' := [some (.ref _), some (.int _), some (.int _), some (.int _), some (.int _), some (.int _), some (.int _)]) dX9_meant_102 rfl (by decide) rfl ?_
         refine gp_goto (t := 41) dX9_meant_105 (by decide) ?_
         (rw [nI_1, ← yb_f (T := mnT I L N s) h11]; exact ih (i + 1) _ _ K (by omega) hK)

       · (try simp only [Classical.not_not] at h11)
         refine gp_iload_n dX9_meant_95 rfl ?_
         refine gp_pu (st' := .int (1) :: _) dX9_meant_96 rfl ?_
         refine gp_iload dX9_meant_97 rfl ?_
         refine gp_pu (st' := .int _ :: _) dX9_meant_99 rfl ?_
         refine gp_pu (st' := .int _ :: _) dX9_meant_100 rfl ?_
         refine gp_istore_n (ls' := [some (.ref _), some (.int _), some (.int _), some (.int _), some (.int _), some (.int _), some (.int _)]) dX9_meant_101 rfl (Nat.le_of_ble_eq_true rfl) ?_
         refine gp_iinc (v := (1)) (ls' := [some (.ref _), some (.int _), some (.int _), some (.int _), some (.int _), some (.int _), some (.int _)]) dX9_meant_102 rfl (by decide) rfl ?_
         refine gp_goto (t := 41) dX9_meant_105 (by decide) ?_
         (rw [nI_1, ← yb_t (T := mnT I L N s) h11 (y_al_01 _ _ _)]; exact ih (i + 1) _ _ K (by omega) hK)
)

set_option maxHeartbeats 400000 in
theorem ml_meant (d : Nat) (v : vN I N S) (hs : mR I C J) (hS : ∀ s, s < 8 → rSh I s) {s : Int32} : cP (d + 8) 204 [.ref 108, .int s] (mm_sh, mm_R, J, L) (pX (some (.int (vq (w_me I N s) (y_bits (mnT I L N s) 1 7)))) L (mR (rM I (w_me I N s)) C)) := by
  have m0 : J 108 0 = nI N := (hs.r (by decide)).trans v.2.2.1
  have m1 : J 108 1 = nI S := (hs.r (by decide)).trans v.2.2.2.1
  refine cP.of_gP (d := d + 7) me_204 ⟨Nat.le_of_ble_eq_true rfl, rfl⟩ ?_
  show gP mm_cs0 _ _ _ _ _ _ [some (.ref _), some (.int _), none, none, none, none, none] [] _ _
  refine gp_aload_n dX9_meant_0 rfl ?_
  refine gp_iload_n dX9_meant_1 rfl ?_
  refine gp_callX (kind := 1) (args := [.ref _, .int _]) (rest := _) dX9_meant_2 (Or.inr (Or.inl ⟨rfl, rfl⟩)) mk_9_214 (by decide) me_140 rfl rfl rfl rfl rfl (mm_rc_of (by first | rfl | assumption | (simp only [*]; done))) (ml_wanted _ v hs) ?_
  intro K1 hK1
  refine gp_istore_n (ls' := [some (.ref _), some (.int _), some (.int _), none, none, none, none]) dX9_meant_5 rfl (Nat.le_of_ble_eq_true rfl) ?_
  refine gp_iload_n dX9_meant_6 rfl ?_
  refine gp_ifc (t := 26) dX9_meant_7 (by decide) c1_ne (fun h1 => ?_) (fun h1 => ?_)
  · (try simp only [bi_0, Classical.not_not] at h1)
    refine gp_iload_n dX9_meant_26 rfl ?_
    refine gp_ifc (t := 36) dX9_meant_27 (by decide) c1_eq (fun h2 => ?_) (fun h2 => ?_)
    · (try simp only [bi_0, Classical.not_not] at h2)
      refine gp_pu (st' := .int (0) :: _) dX9_meant_36 rfl ?_
      refine gp_istore_n (ls' := [some (.ref _), some (.int _), some (.int _), some (.int _), none, none, none]) dX9_meant_37 rfl (Nat.le_of_ble_eq_true rfl) ?_
      refine gp_pu (st' := .int (0) :: _) dX9_meant_38 rfl ?_
      refine gp_istore (ls' := [some (.ref _), some (.int _), some (.int _), some (.int _), some (.int _), none, none]) dX9_meant_39 rfl (Nat.le_of_ble_eq_true rfl) ?_
      (have hw : w_me I N s = 0 := by (first | (simp [w_me, *]; done) | (simp_all [w_me]; done)))
      rw [hw]
      have zqm := (by assumption : m_want I s = 0)
      exact lp_mmo d v (want_0 hS zqm).1 7 0 none none K1 (by omega) hK1
    · (try simp only [bi_0, Classical.not_not] at h2)
      refine gp_aload_n dX9_meant_30 rfl ?_
      refine gp_iload_n dX9_meant_31 rfl ?_
      refine gp_call (kind := 1) (args := [.ref _, .int _]) (rest := _) dX9_meant_32 (Or.inr (Or.inl ⟨rfl, rfl⟩)) mk_9_127 (by decide) me_127 rfl rfl rfl rfl rfl (mm_rc_of (by first | rfl | assumption | (simp only [*]; done))) (ok_X9_no _ _ _ _ (by first | decide | exact (want_w (by assumption)).inn)) rfl ?_
      refine gp_iret dX9_meant_35 rfl ?_
      first | (refine mNo ?zqa ?zqc hK1; (case zqa => (first | ((simp [w_me, *]; done)) | (exfalso; first | contradiction | (simp_all; done)))); (case zqc => (first | (unfold isW; decide) | exact want_w (by assumption))))
  · (try simp only [bi_0, Classical.not_not] at h1)
    have zqs1 := (sh_s (want_0 hS (s := s) (by assumption)).1).1
    refine gp_aload_n dX9_meant_10 rfl ?_
    refine gp_gr dX9_meant_11 mf_9_62 rfl (by first | rfl | assumption | (simp only [*]; done)) (by first | rfl | assumption | (simp only [*]; done)) ?_
    refine gp_iload_n dX9_meant_14 rfl ?_
    refine gp_ialv dX9_meant_15 rfl (by first | rfl | assumption | (simp only [*]; done)) (by first | rfl | assumption | (simp only [*]; done)) (by first | exact (hK1.r (by decide)).trans v.2.2.1 | exact hK1.1 _ _ rfl | exact rfl) ?_
    refine gp_aload_n dX9_meant_16 rfl ?_
    refine gp_giv dX9_meant_17 mf_9_117 (by decide) (by first | rfl | assumption | (simp only [*]; done)) (by first | exact (hK1.r (by decide)).trans v.2.2.1 | exact hK1.1 _ _ rfl | exact rfl) ?_
    refine gp_icc (t := 26) dX9_meant_20 (by decide) c2_ge (fun h3 => ?_) (fun h3 => ?_)
    · have h3' := Int32.not_lt.mpr h3
      (try simp only [bi_0, Classical.not_not] at h3)
      refine gp_iload_n dX9_meant_26 rfl ?_
      refine gp_ifc (t := 36) dX9_meant_27 (by decide) c1_eq (fun h4 => ?_) (fun h4 => ?_)
      · (try simp only [bi_0, Classical.not_not] at h4)
        refine gp_pu (st' := .int (0) :: _) dX9_meant_36 rfl ?_
        refine gp_istore_n (ls' := [some (.ref _), some (.int _), some (.int _), some (.int _), none, none, none]) dX9_meant_37 rfl (Nat.le_of_ble_eq_true rfl) ?_
        refine gp_pu (st' := .int (0) :: _) dX9_meant_38 rfl ?_
        refine gp_istore (ls' := [some (.ref _), some (.int _), some (.int _), some (.int _), some (.int _), none, none]) dX9_meant_39 rfl (Nat.le_of_ble_eq_true rfl) ?_
        (have hw : w_me I N s = 0 := by (first | (simp [w_me, *]; done) | (simp_all [w_me]; done)))
        rw [hw]
        have zqm := (by assumption : m_want I s = 0)
        exact lp_mmo d v (want_0 hS zqm).1 7 0 none none K1 (by omega) hK1
      · (try simp only [bi_0, Classical.not_not] at h4)
        refine gp_aload_n dX9_meant_30 rfl ?_
        refine gp_iload_n dX9_meant_31 rfl ?_
        refine gp_call (kind := 1) (args := [.ref _, .int _]) (rest := _) dX9_meant_32 (Or.inr (Or.inl ⟨rfl, rfl⟩)) mk_9_127 (by decide) me_127 rfl rfl rfl rfl rfl (mm_rc_of (by first | rfl | assumption | (simp only [*]; done))) (ok_X9_no _ _ _ _ (by first | decide | exact (want_w (by assumption)).inn)) rfl ?_
        refine gp_iret dX9_meant_35 rfl ?_
        first | (refine mNo ?zqa ?zqc hK1; (case zqa => (first | ((simp [w_me, *]; done)) | (exfalso; first | contradiction | (simp_all; done)))); (case zqc => (first | (unfold isW; decide) | exact want_w (by assumption))))
    · have h3' := Int32.not_le.mp h3
      (try simp only [bi_0, Classical.not_not] at h3)
      refine gp_pu (st' := .int (-5) :: _) dX9_meant_23 rfl ?_
      refine gp_istore_n (ls' := [some (.ref _), some (.int _), some (.int _), none, none, none, none]) dX9_meant_25 rfl (Nat.le_of_ble_eq_true rfl) ?_
      refine gp_iload_n dX9_meant_26 rfl ?_
      refine gp_ifc (t := 36) dX9_meant_27 (by decide) c1_eq (fun h5 => ?_) (fun h5 => ?_)
      · (try simp only [bi_0, Classical.not_not] at h5)
        refine gp_pu (st' := .int (0) :: _) dX9_meant_36 rfl ?_
        refine gp_istore_n (ls' := [some (.ref _), some (.int _), some (.int _), some (.int _), none, none, none]) dX9_meant_37 rfl (Nat.le_of_ble_eq_true rfl) ?_
        refine gp_pu (st' := .int (0) :: _) dX9_meant_38 rfl ?_
        refine gp_istore (ls' := [some (.ref _), some (.int _), some (.int _), some (.int _), some (.int _), none, none]) dX9_meant_39 rfl (Nat.le_of_ble_eq_true rfl) ?_
        (have hw : w_me I N s = 0 := by (first | (simp [w_me, *]; done) | (simp_all [w_me]; done)))
        rw [hw]
        have zqm := (by assumption : m_want I s = 0)
        exact lp_mmo d v (want_0 hS zqm).1 7 0 none none K1 (by omega) hK1
      · (try simp only [bi_0, Classical.not_not] at h5)
        refine gp_aload_n dX9_meant_30 rfl ?_
        refine gp_iload_n dX9_meant_31 rfl ?_
        refine gp_call (kind := 1) (args := [.ref _, .int _]) (rest := _) dX9_meant_32 (Or.inr (Or.inl ⟨rfl, rfl⟩)) mk_9_127 (by decide) me_127 rfl rfl rfl rfl rfl (mm_rc_of (by first | rfl | assumption | (simp only [*]; done))) (ok_X9_no _ _ _ _ (by first | decide | exact (want_w (by assumption)).inn)) rfl ?_
        refine gp_iret dX9_meant_35 rfl ?_
        first | (refine mNo ?zqa ?zqc hK1; (case zqa => (first | ((simp [w_me, *]; done)) | (exfalso; first | contradiction | (simp_all; done)))); (case zqc => (first | (unfold isW; decide) | exact want_w (by assumption))))
end P76
