/-! PUBLIC METHODS: pair -/
section P75
variable {I C J : pI} {L : pL} {N S : Nat}

def prT (I : pI) (c e : Nat) : Int32 := q_two I (nI c) (nI e) (I 113 (nI c).toNatClampNeg)
def y_st (T : Nat → Nat → Int32) (c e : Nat) (s : Int32 × Int32) : Int32 × Int32 := if T c e < s.2 then (100 * nI c + nI e, T c e) else s
def y_pi (T : Nat → Nat → Int32) (c : Nat) : Nat → Nat → Int32 × Int32 → Int32 × Int32
  | 0, _, s => s
  | n + 1, e, s => y_pi T c n (e + 1) (y_st T c e s)
def y_po (T : Nat → Nat → Int32) (N : Nat) : Nat → Nat → Int32 × Int32 → Int32 × Int32
  | 0, _, s => s
  | n + 1, c, s => y_po T N n (c + 1) (y_pi T c (N - (c + 1)) (c + 1) s)
theorem prT_wi (v : vN I N S) {c e : Nat} (hc : c < 8) (he : e < 8) : wi (prT I c e) 0 999 := by
  refine tq_wi v (wi_min ?_ ?_)
  · rw [nI_clamp (by omega)]; exact (v.k hc).2.2.1
  · rw [nI_clamp (by omega)]; exact (v.k he).2.2.1
theorem y_st_t {T : Nat → Nat → Int32} {c e : Nat} {s : Int32 × Int32} (h : T c e < s.2) : y_st T c e s = (100 * nI c + nI e, T c e) := if_pos h
theorem y_st_f {T : Nat → Nat → Int32} {c e : Nat} {s : Int32 × Int32} (h : s.2 ≤ T c e) : y_st T c e s = s := if_neg (Int32.not_lt.mpr h)
theorem bR.psk (hb : vN I N S) (hS : 0 < S) {c : Nat} (hc : c < N) : 0 ≤ I 113 (nI c).toNatClampNeg ∧ I 113 (nI c).toNatClampNeg < nI S := by
  have h8 := hb.1
  have s8 := hb.2.1
  rw [nI_clamp (by omega)]
  rcases (hb.k (c := c) (by omega)).2.2.2.1 with q | q
  · rw [q]; exact ⟨by decide, nI_0 ▸ nI_lt (by omega) (by omega)⟩
  · exact q

set_option maxHeartbeats 400000 in
theorem lp_cpi (d : Nat) (hb : bR I N S) (hS0 : 0 < S) (c : Nat) (hc : c < N) (Q : Option Value → mm_M → Prop) : ∀ (n e : Nat) (s : Int32 × Int32) (v5 : Option Value) (J : pI), e + n = N → sc I J → (∀ (v : Option Value) (K : pI), sc I K → gP mm_cs0 (d + 5) 8 false (some .int) cX8_pair 108 [some (.ref 0), some (.int (y_pi (prT I) c n e s).1), some (.int (y_pi (prT I) c n e s).2), some (.int (nI c)), some (.int (nI N)), v] [] (mm_sh, mm_R, K, L) Q) → gP mm_cs0 (d + 5) 8 false (some .int) cX8_pair 52 [some (.ref 0), some (.int s.1), some (.int s.2), some (.int (nI c)), some (.int (nI e)), v5] [] (mm_sh, mm_R, J, L) Q := by
  have hN8 := hb.n.1
  intro n
  induction n with
  | zero =>
    intro e s v5 J hi hsJ hk
    obtain rfl : e = N := by omega
    have hc1 : nI e ≤ nI e := Int32.le_refl _
    refine gp_iload dX8_pair_52 rfl ?_
    refine gp_aload_n dX8_pair_54 rfl ?_
    refine gp_gr dX8_pair_55 mf_8_10 rfl (by first | rfl | assumption | (simp only [*]; done)) (by first | rfl | assumption | (simp only [*]; done)) ?_
    refine gp_giv dX8_pair_58 mf_8_154 (by decide) (by first | rfl | assumption | (simp only [*]; done)) (by first | exact hb.c11 hsJ | exact rfl) ?_
    refine gp_icc (t := 108) dX8_pair_61 (by decide) c2_ge (fun h1 => ?_) (fun h1 => ?_)
    · have h1' := Int32.not_lt.mpr h1
      exact hk v5 J hsJ
    · exact absurd hc1 h1
  | succ n ih =>
    intro e s v5 J hi hsJ hk
    have hc1 : ¬ nI N ≤ nI e := nI_ge (by omega) (by omega)
    have hcc := ch_n hb.1 hc
    have hee := ch_n hb.1 (show e < N by omega)
    obtain ⟨zqc1, zqc2, zqc3, zqc4⟩ := hb.cc hsJ (c := nI c) hcc
    refine gp_iload dX8_pair_52 rfl ?_
    refine gp_aload_n dX8_pair_54 rfl ?_
    refine gp_gr dX8_pair_55 mf_8_10 rfl (by first | rfl | assumption | (simp only [*]; done)) (by first | rfl | assumption | (simp only [*]; done)) ?_
    refine gp_giv dX8_pair_58 mf_8_154 (by decide) (by first | rfl | assumption | (simp only [*]; done)) (by first | exact zqc4 _ (by decide) | exact hb.c11 hsJ | exact rfl) ?_
    refine gp_icc (t := 108) dX8_pair_61 (by decide) c2_ge (fun h1 => ?_) (fun h1 => ?_)
    · exact absurd h1 hc1
    · have h1' := Int32.not_le.mp h1
      (try simp only [Classical.not_not] at h1)
      refine gp_aload_n dX8_pair_64 rfl ?_
      refine gp_iload_n dX8_pair_65 rfl ?_
      refine gp_iload dX8_pair_66 rfl ?_
      refine gp_aload_n dX8_pair_68 rfl ?_
      refine gp_gr dX8_pair_69 mf_8_10 rfl (by first | rfl | assumption | (simp only [*]; done)) (by first | rfl | assumption | (simp only [*]; done)) ?_
      refine gp_gr dX8_pair_72 mf_8_138 rfl (by first | rfl | assumption | (simp only [*]; done)) (by first | rfl | assumption | (simp only [*]; done)) ?_
      refine gp_iload_n dX8_pair_75 rfl ?_
      refine gp_aal dX8_pair_76 (by first | rfl | assumption | (simp only [*]; done)) (by decide) (by first | rfl | assumption | (simp only [*]; done)) (by first | rfl | assumption | (simp only [*]; done)) ?_
      refine gp_giv dX8_pair_77 mf_8_185 (by decide) (by first | rfl | assumption | (simp only [*]; done)) (by first | exact zqc4 _ (by decide) | exact hb.c11 hsJ | exact rfl) ?_
      refine gp_callX (kind := 1) (args := [.ref _, .int _, .int _, .int _]) (rest := _) dX8_pair_80 (Or.inr (Or.inl ⟨rfl, rfl⟩)) mk_8_310 (by decide) me_113 rfl rfl rfl rfl rfl (mm_rc_of (by first | rfl | assumption | (simp only [*]; done))) (ct_timeOfTwo _ hb hsJ hcc hee (bR.psk hb.1 hS0 hc)) ?_
      intro K1 hK1
      refine gp_istore (ls' := [some (.ref _), some (.int _), some (.int _), some (.int _), some (.int _), some (.int _)]) dX8_pair_83 rfl (Nat.le_of_ble_eq_true rfl) ?_
      refine gp_iload dX8_pair_85 rfl ?_
      refine gp_iload_n dX8_pair_87 rfl ?_
      refine gp_icc (t := 102) dX8_pair_88 (by decide) c2_ge (fun h2 => ?_) (fun h2 => ?_)
      · have h2' := Int32.not_lt.mpr h2
        (try simp only [Classical.not_not] at h2)
        refine gp_iinc (v := (1)) (ls' := [some (.ref _), some (.int _), some (.int _), some (.int _), some (.int _), some (.int _)]) dX8_pair_102 rfl (by decide) rfl ?_
        refine gp_goto (t := 52) dX8_pair_105 (by decide) ?_
        (rw [nI_1]
         have hst := y_st_f (T := prT I) (c := c) (e := e) (s := s) h2
         refine ih (e + 1) s _ K1 (by omega) hK1 ?_
         intro v K hK
         have := hk v K hK
         rw [y_pi, hst] at this
         exact this)
      · have h2' := Int32.not_le.mp h2
        (try simp only [Classical.not_not] at h2)
        refine gp_iload dX8_pair_91 rfl ?_
        refine gp_istore_n (ls' := [some (.ref _), some (.int _), some (.int _), some (.int _), some (.int _), some (.int _)]) dX8_pair_93 rfl (Nat.le_of_ble_eq_true rfl) ?_
        refine gp_pu (st' := .int (100) :: _) dX8_pair_94 rfl ?_
        refine gp_iload_n dX8_pair_96 rfl ?_
        refine gp_pu (st' := .int _ :: _) dX8_pair_97 rfl ?_
        refine gp_iload dX8_pair_98 rfl ?_
        refine gp_pu (st' := .int _ :: _) dX8_pair_100 rfl ?_
        refine gp_istore_n (ls' := [some (.ref _), some (.int _), some (.int _), some (.int _), some (.int _), some (.int _)]) dX8_pair_101 rfl (Nat.le_of_ble_eq_true rfl) ?_
        refine gp_iinc (v := (1)) (ls' := [some (.ref _), some (.int _), some (.int _), some (.int _), some (.int _), some (.int _)]) dX8_pair_102 rfl (by decide) rfl ?_
        refine gp_goto (t := 52) dX8_pair_105 (by decide) ?_
        (rw [nI_1]
         have hst := y_st_t (T := prT I) (c := c) (e := e) (s := s) h2'
         refine ih (e + 1) (100 * nI c + nI e, prT I c e) _ K1 (by omega) hK1 ?_
         intro v K hK
         have := hk v K hK
         rw [y_pi, hst] at this
         exact this)

set_option maxHeartbeats 400000 in
theorem lp_cpo (d : Nat) (hb : bR I N S) (hS0 : 0 < S) : ∀ (n c : Nat) (s : Int32 × Int32) (v4 v5 : Option Value) (J : pI), c + n = N → sc I J → gP mm_cs0 (d + 5) 8 false (some .int) cX8_pair 36 [some (.ref 0), some (.int s.1), some (.int s.2), some (.int (nI c)), v4, v5] [] (mm_sh, mm_R, J, L) (pX (some (.int (y_po (prT I) N n c s).1)) L (sc I)) := by
  have hN8 := hb.n.1
  intro n
  induction n with
  | zero =>
    intro c s v4 v5 J hi hsJ
    obtain rfl : c = N := by omega
    have hc1 : nI c ≤ nI c := Int32.le_refl _
    refine gp_iload_n dX8_pair_36 rfl ?_
    refine gp_aload_n dX8_pair_37 rfl ?_
    refine gp_gr dX8_pair_38 mf_8_10 rfl (by first | rfl | assumption | (simp only [*]; done)) (by first | rfl | assumption | (simp only [*]; done)) ?_
    refine gp_giv dX8_pair_41 mf_8_154 (by decide) (by first | rfl | assumption | (simp only [*]; done)) (by first | exact hb.c11 hsJ | exact rfl) ?_
    refine gp_icc (t := 114) dX8_pair_44 (by decide) c2_ge (fun h1 => ?_) (fun h1 => ?_)
    · have h1' := Int32.not_lt.mpr h1
      refine gp_iload_n dX8_pair_114 rfl ?_
      refine gp_iret dX8_pair_115 rfl ?_
      exact pX.mk rfl hsJ
    · exact absurd hc1 h1
  | succ n ih =>
    intro c s v4 v5 J hi hsJ
    have hc1 : ¬ nI N ≤ nI c := nI_ge (by omega) (by omega)
    refine gp_iload_n dX8_pair_36 rfl ?_
    refine gp_aload_n dX8_pair_37 rfl ?_
    refine gp_gr dX8_pair_38 mf_8_10 rfl (by first | rfl | assumption | (simp only [*]; done)) (by first | rfl | assumption | (simp only [*]; done)) ?_
    refine gp_giv dX8_pair_41 mf_8_154 (by decide) (by first | rfl | assumption | (simp only [*]; done)) (by first | exact hb.c11 hsJ | exact rfl) ?_
    refine gp_icc (t := 114) dX8_pair_44 (by decide) c2_ge (fun h1 => ?_) (fun h1 => ?_)
    · exact absurd h1 hc1
    · have h1' := Int32.not_le.mp h1
      refine gp_iload_n dX8_pair_47 rfl ?_
      refine gp_pu (st' := .int (1) :: _) dX8_pair_48 rfl ?_
      refine gp_pu (st' := .int _ :: _) dX8_pair_49 rfl ?_
      refine gp_istore (ls' := [some (.ref _), some (.int _), some (.int _), some (.int _), some (.int _), _]) dX8_pair_50 rfl (Nat.le_of_ble_eq_true rfl) ?_
      (rw [nI_1]
       refine lp_cpi d hb hS0 c (by omega) _ (N - (c + 1)) (c + 1) s v5 J (by omega) hsJ ?_
       intro v K hK
       refine gp_iinc (v := (1)) (ls' := [some (.ref _), some (.int _), some (.int _), some (.int _), some (.int _), _]) dX8_pair_108 rfl (by decide) rfl ?_
       refine gp_goto (t := 36) dX8_pair_111 (by decide) ?_
       (rw [nI_1]; exact ih (c + 1) _ _ v K (by omega) hK))

def w_pa (N S : Nat) : Int32 := if N < 2 ∨ S = 0 then -5 else 0
theorem w_pa_w (N S : Nat) : w_pa N S = 0 ∨ isW (w_pa N S) := by unfold w_pa; (repeat' split) <;> first | exact Or.inl rfl | (right; unfold isW; decide)
theorem nI_2 {N : Nat} (h : N ≤ 8) : nI N < 2 ↔ N < 2 := by
  rw [show (2 : Int32) = nI 2 from rfl, nI_ltI (by omega) (by omega)]

set_option maxHeartbeats 400000 in
theorem cl_pair (d : Nat) (hb : bR I N S)  : cP (d + 6) 83 [.ref 0] (mm_sh, mm_R, I, L) (pX (some (.int (vq (w_pa N S) (y_po (prT I) N N 0 (-1, 1000)).1))) L (sc (rI I (w_pa N S)))) := by
  have hs := sc.rf I
  have e11 : I 1 1 = nI N := hb.c11 hs
  have e13 : I 1 3 = nI S := hb.c13 hs
  refine cP.of_gP (d := d + 5) me_83 ⟨Nat.le_of_ble_eq_true rfl, rfl⟩ ?_
  show gP mm_cs0 _ _ _ _ _ _ [some (.ref _), none, none, none, none, none] [] _ _
  refine gp_aload_n dX8_pair_0 rfl ?_
  refine gp_gr dX8_pair_1 mf_8_10 rfl (by first | rfl | assumption | (simp only [*]; done)) (by first | rfl | assumption | (simp only [*]; done)) ?_
  refine gp_giv dX8_pair_4 mf_8_154 (by decide) (by first | rfl | assumption | (simp only [*]; done)) (by first | exact e11 | exact e13 | exact rfl) ?_
  refine gp_pu (st' := .int (2) :: _) dX8_pair_7 rfl ?_
  refine gp_icc (t := 21) dX8_pair_8 (by decide) c2_lt (fun h1 => ?_) (fun h1 => ?_)
  · have h1' := Int32.not_le.mpr h1
    (try simp only [Classical.not_not, e11, e13, nI_0f hb.n.2.1, nI_2 hb.n.1] at h1)
    refine gp_aload_n dX8_pair_21 rfl ?_
    refine gp_pu (st' := .int (-5) :: _) dX8_pair_22 rfl ?_
    refine gp_call (kind := 1) (args := [.ref _, .int _]) (rest := _) dX8_pair_24 (Or.inr (Or.inl ⟨rfl, rfl⟩)) mk_8_79 (by decide) me_100 rfl rfl rfl rfl rfl (mm_rc_of (by first | rfl | assumption | (simp only [*]; done))) (ok_X8_refuse _ _ _ _) rfl ?_
    refine gp_iret dX8_pair_27 rfl ?_
    (refine cNo ?zqa ?zqc; (case zqa => (first | ((simp [w_pa, *]; done)) | (exfalso; first | contradiction | (simp_all; done)))); (case zqc => (unfold isW; decide)))
  · have h1' := Int32.not_lt.mp h1
    (try simp only [Classical.not_not, e11, e13, nI_0f hb.n.2.1, nI_2 hb.n.1] at h1)
    refine gp_aload_n dX8_pair_11 rfl ?_
    refine gp_gr dX8_pair_12 mf_8_10 rfl (by first | rfl | assumption | (simp only [*]; done)) (by first | rfl | assumption | (simp only [*]; done)) ?_
    refine gp_giv dX8_pair_15 mf_8_161 (by decide) (by first | rfl | assumption | (simp only [*]; done)) (by first | exact e11 | exact e13 | exact rfl) ?_
    refine gp_ifc (t := 28) dX8_pair_18 (by decide) c1_ne (fun h2 => ?_) (fun h2 => ?_)
    · (try simp only [Classical.not_not, e11, e13, nI_0f hb.n.2.1, nI_2 hb.n.1] at h2)
      refine gp_pu (st' := .int (-1) :: _) dX8_pair_28 rfl ?_
      refine gp_istore_n (ls' := [some (.ref _), some (.int _), none, none, none, none]) dX8_pair_29 rfl (Nat.le_of_ble_eq_true rfl) ?_
      refine gp_pu (st' := .int (1000) :: _) dX8_pair_30 rfl ?_
      refine gp_istore_n (ls' := [some (.ref _), some (.int _), some (.int _), none, none, none]) dX8_pair_33 rfl (Nat.le_of_ble_eq_true rfl) ?_
      refine gp_pu (st' := .int (0) :: _) dX8_pair_34 rfl ?_
      refine gp_istore_n (ls' := [some (.ref _), some (.int _), some (.int _), some (.int _), none, none]) dX8_pair_35 rfl (Nat.le_of_ble_eq_true rfl) ?_
      (have hw : w_pa N S = 0 := by simp [w_pa, *])
      rw [hw]
      exact lp_cpo d hb (by omega) N 0 (-1, 1000) none none I (by omega) hs
    · (try simp only [Classical.not_not, e11, e13, nI_0f hb.n.2.1, nI_2 hb.n.1] at h2)
      refine gp_aload_n dX8_pair_21 rfl ?_
      refine gp_pu (st' := .int (-5) :: _) dX8_pair_22 rfl ?_
      refine gp_call (kind := 1) (args := [.ref _, .int _]) (rest := _) dX8_pair_24 (Or.inr (Or.inl ⟨rfl, rfl⟩)) mk_8_79 (by decide) me_100 rfl rfl rfl rfl rfl (mm_rc_of (by first | rfl | assumption | (simp only [*]; done))) (ok_X8_refuse _ _ _ _) rfl ?_
      refine gp_iret dX8_pair_27 rfl ?_
      (refine cNo ?zqa ?zqc; (case zqa => (first | ((simp [w_pa, *]; done)) | (exfalso; first | contradiction | (simp_all; done)))); (case zqc => (unfold isW; decide)))

def y_rl (s : Int32 × Int32) (l : Int32) : Prop := (s.1 = -1 ∧ s.2 = 1000) ∨ (¬ s.1 = -1 ∧ s.2 = l)
theorem y_rl_n (c e : Nat) (hc : c < 8) (he : e < 8) : ¬ 100 * nI c + nI e = -1 := by
  have h1 : (100 : Int32) * nI c = nI (100 * c) := by
    have : c = 0 ∨ c = 1 ∨ c = 2 ∨ c = 3 ∨ c = 4 ∨ c = 5 ∨ c = 6 ∨ c = 7 := by omega
    rcases this with rfl | rfl | rfl | rfl | rfl | rfl | rfl | rfl <;> decide
  rw [h1, nI_add]
  intro z
  have := nI_pos' (n := 100 * c + e) (by omega)
  rw [z] at this
  exact absurd this (by decide)

set_option maxHeartbeats 400000 in
theorem lp_mpi (d : Nat) (v : vN I N S) (hS0 : 0 < S) (c : Nat) (hc : c < N) (Q : Option Value → mm_M → Prop) : ∀ (n e : Nat) (s : Int32 × Int32) (l : Int32) (v5 : Option Value) (J : pI), e + n = N → mR I C J → y_rl s l → (∀ (v : Option Value) (l : Int32) (K : pI), mR I C K → y_rl (y_pi (prT I) c n e s) l → gP mm_cs0 (d + 8) 9 false (some .int) cX9_pair 96 [some (.ref 108), some (.int (y_pi (prT I) c n e s).1), some (.int l), some (.int (nI c)), some (.int (nI N)), v] [] (mm_sh, mm_R, K, L) Q) → gP mm_cs0 (d + 8) 9 false (some .int) cX9_pair 41 [some (.ref 108), some (.int s.1), some (.int l), some (.int (nI c)), some (.int (nI e)), v5] [] (mm_sh, mm_R, J, L) Q := by
  have hN8 := v.1
  intro n
  induction n with
  | zero =>
    intro e s l v5 J hi hsJ hrl hk
    have m0 : J 108 0 = nI N := (hsJ.r (by decide)).trans v.2.2.1
    obtain rfl : e = N := by omega
    have hc1 : nI e ≤ nI e := Int32.le_refl _
    refine gp_iload dX9_pair_41 rfl ?_
    refine gp_aload_n dX9_pair_43 rfl ?_
    refine gp_giv dX9_pair_44 mf_9_117 (by decide) (by first | rfl | assumption | (simp only [*]; done)) (by first | exact m0 | exact rfl) ?_
    refine gp_icc (t := 96) dX9_pair_47 (by decide) c2_ge (fun h1 => ?_) (fun h1 => ?_)
    · have h1' := Int32.not_lt.mpr h1
      exact hk v5 l J hsJ hrl
    · exact absurd hc1 h1
  | succ n ih =>
    intro e s l v5 J hi hsJ hrl hk
    have m0 : J 108 0 = nI N := (hsJ.r (by decide)).trans v.2.2.1
    have hc1 : ¬ nI N ≤ nI e := nI_ge (by omega) (by omega)
    have hcc := ch_n v hc
    have hee := ch_n v (show e < N by omega)
    have zqc1 := v.in8 hcc
    have hT := wi_lt (prT_wi v (c := c) (e := e) (by omega) (by omega))
    refine gp_iload dX9_pair_41 rfl ?_
    refine gp_aload_n dX9_pair_43 rfl ?_
    refine gp_giv dX9_pair_44 mf_9_117 (by decide) (by first | rfl | assumption | (simp only [*]; done)) (by first | exact m0 | exact hsJ.1 _ _ rfl | exact rfl) ?_
    refine gp_icc (t := 96) dX9_pair_47 (by decide) c2_ge (fun h1 => ?_) (fun h1 => ?_)
    · exact absurd h1 hc1
    · have h1' := Int32.not_le.mp h1
      (try simp only [Classical.not_not] at h1)
      refine gp_aload_n dX9_pair_50 rfl ?_
      refine gp_iload_n dX9_pair_51 rfl ?_
      refine gp_iload dX9_pair_52 rfl ?_
      refine gp_aload_n dX9_pair_54 rfl ?_
      refine gp_gr dX9_pair_55 mf_9_41 rfl (by first | rfl | assumption | (simp only [*]; done)) (by first | rfl | assumption | (simp only [*]; done)) ?_
      refine gp_iload_n dX9_pair_58 rfl ?_
      refine gp_ialv dX9_pair_59 rfl (by first | rfl | assumption | (simp only [*]; done)) (by first | rfl | assumption | (simp only [*]; done)) (by first | exact m0 | exact hsJ.1 _ _ rfl | exact rfl) ?_
      refine gp_callX (kind := 1) (args := [.ref _, .int _, .int _, .int _]) (rest := _) dX9_pair_60 (Or.inr (Or.inl ⟨rfl, rfl⟩)) mk_9_321 (by decide) me_194 rfl rfl rfl rfl rfl (mm_rc_of (by first | rfl | assumption | (simp only [*]; done))) (mt_twoIn _ _ v hsJ hcc hee (bR.psk v hS0 hc)) ?_
      intro K1 hK1
      refine gp_istore (ls' := [some (.ref _), some (.int _), some (.int _), some (.int _), some (.int _), some (.int _)]) dX9_pair_63 rfl (Nat.le_of_ble_eq_true rfl) ?_
      refine gp_iload_n dX9_pair_65 rfl ?_
      refine gp_pu (st' := .int (-1) :: _) dX9_pair_66 rfl ?_
      refine gp_icc (t := 79) dX9_pair_67 (by decide) c2_eq (fun h2 => ?_) (fun h2 => ?_)
      · (try simp only [Classical.not_not] at h2)
        refine gp_pu (st' := .int (100) :: _) dX9_pair_79 rfl ?_
        refine gp_iload_n dX9_pair_81 rfl ?_
        refine gp_pu (st' := .int _ :: _) dX9_pair_82 rfl ?_
        refine gp_iload dX9_pair_83 rfl ?_
        refine gp_pu (st' := .int _ :: _) dX9_pair_85 rfl ?_
        refine gp_istore_n (ls' := [some (.ref _), some (.int _), some (.int _), some (.int _), some (.int _), some (.int _)]) dX9_pair_86 rfl (Nat.le_of_ble_eq_true rfl) ?_
        refine gp_iload dX9_pair_87 rfl ?_
        refine gp_istore_n (ls' := [some (.ref _), some (.int _), some (.int _), some (.int _), some (.int _), some (.int _)]) dX9_pair_89 rfl (Nat.le_of_ble_eq_true rfl) ?_
        refine gp_iinc (v := (1)) (ls' := [some (.ref _), some (.int _), some (.int _), some (.int _), some (.int _), some (.int _)]) dX9_pair_90 rfl (by decide) rfl ?_
        refine gp_goto (t := 41) dX9_pair_93 (by decide) ?_
        (rw [nI_1]
         have hst : y_st (prT I) c e s = (100 * nI c + nI e, prT I c e) := by
          refine y_st_t ?_
          rcases hrl with ⟨a, b⟩ | ⟨a, b⟩
          · rw [b]; exact hT
          · exact absurd h2 a
         refine ih (e + 1) (100 * nI c + nI e, prT I c e) (prT I c e) _ K1 (by omega) hK1 (Or.inr ⟨y_rl_n c e (by omega) (by omega), rfl⟩) ?_
         intro v l K hK hr
         rw [← hst] at hr
         have := hk v l K hK hr
         rw [y_pi, hst] at this
         exact this)
      · (try simp only [Classical.not_not] at h2)
        refine gp_iload dX9_pair_70 rfl ?_
        refine gp_iload_n dX9_pair_72 rfl ?_
        refine gp_icc (t := 79) dX9_pair_73 (by decide) c2_lt (fun h3 => ?_) (fun h3 => ?_)
        · have h3' := Int32.not_le.mpr h3
          (try simp only [Classical.not_not] at h3)
          refine gp_pu (st' := .int (100) :: _) dX9_pair_79 rfl ?_
          refine gp_iload_n dX9_pair_81 rfl ?_
          refine gp_pu (st' := .int _ :: _) dX9_pair_82 rfl ?_
          refine gp_iload dX9_pair_83 rfl ?_
          refine gp_pu (st' := .int _ :: _) dX9_pair_85 rfl ?_
          refine gp_istore_n (ls' := [some (.ref _), some (.int _), some (.int _), some (.int _), some (.int _), some (.int _)]) dX9_pair_86 rfl (Nat.le_of_ble_eq_true rfl) ?_
          refine gp_iload dX9_pair_87 rfl ?_
          refine gp_istore_n (ls' := [some (.ref _), some (.int _), some (.int _), some (.int _), some (.int _), some (.int _)]) dX9_pair_89 rfl (Nat.le_of_ble_eq_true rfl) ?_
          refine gp_iinc (v := (1)) (ls' := [some (.ref _), some (.int _), some (.int _), some (.int _), some (.int _), some (.int _)]) dX9_pair_90 rfl (by decide) rfl ?_
          refine gp_goto (t := 41) dX9_pair_93 (by decide) ?_
          (rw [nI_1]
           have hst : y_st (prT I) c e s = (100 * nI c + nI e, prT I c e) := by
            refine y_st_t ?_
            rcases hrl with ⟨a, b⟩ | ⟨a, b⟩
            · rw [b]; exact hT
            · rw [b]; exact h3
           refine ih (e + 1) (100 * nI c + nI e, prT I c e) (prT I c e) _ K1 (by omega) hK1 (Or.inr ⟨y_rl_n c e (by omega) (by omega), rfl⟩) ?_
           intro v l K hK hr
           rw [← hst] at hr
           have := hk v l K hK hr
           rw [y_pi, hst] at this
           exact this)
        · have h3' := Int32.not_lt.mp h3
          (try simp only [Classical.not_not] at h3)
          refine gp_goto (t := 90) dX9_pair_76 (by decide) ?_
          refine gp_iinc (v := (1)) (ls' := [some (.ref _), some (.int _), some (.int _), some (.int _), some (.int _), some (.int _)]) dX9_pair_90 rfl (by decide) rfl ?_
          refine gp_goto (t := 41) dX9_pair_93 (by decide) ?_
          (rw [nI_1]
           have hst : y_st (prT I) c e s = s := by
            refine y_st_f ?_
            rcases hrl with ⟨a, b⟩ | ⟨a, b⟩
            · exact absurd a h2
            · rw [b]; exact Int32.not_lt.mp h3
           refine ih (e + 1) s l _ K1 (by omega) hK1 hrl ?_
           intro v l K hK hr
           rw [← hst] at hr
           have := hk v l K hK hr
           rw [y_pi, hst] at this
           exact this)

set_option maxHeartbeats 400000 in
theorem lp_mpo (d : Nat) (v : vN I N S) (hS0 : 0 < S) : ∀ (n c : Nat) (s : Int32 × Int32) (l : Int32) (v4 v5 : Option Value) (J : pI), c + n = N → mR I C J → y_rl s l → gP mm_cs0 (d + 8) 9 false (some .int) cX9_pair 28 [some (.ref 108), some (.int s.1), some (.int l), some (.int (nI c)), v4, v5] [] (mm_sh, mm_R, J, L) (pX (some (.int (y_po (prT I) N n c s).1)) L (mR I C)) := by
  have hN8 := v.1
  intro n
  induction n with
  | zero =>
    intro c s l v4 v5 J hi hsJ hrl
    have m0 : J 108 0 = nI N := (hsJ.r (by decide)).trans v.2.2.1
    obtain rfl : c = N := by omega
    have hc1 : nI c ≤ nI c := Int32.le_refl _
    refine gp_iload_n dX9_pair_28 rfl ?_
    refine gp_aload_n dX9_pair_29 rfl ?_
    refine gp_giv dX9_pair_30 mf_9_117 (by decide) (by first | rfl | assumption | (simp only [*]; done)) (by first | exact m0 | exact rfl) ?_
    refine gp_icc (t := 102) dX9_pair_33 (by decide) c2_ge (fun h1 => ?_) (fun h1 => ?_)
    · have h1' := Int32.not_lt.mpr h1
      refine gp_iload_n dX9_pair_102 rfl ?_
      refine gp_iret dX9_pair_103 rfl ?_
      exact pX.mk rfl hsJ
    · exact absurd hc1 h1
  | succ n ih =>
    intro c s l v4 v5 J hi hsJ hrl
    have m0 : J 108 0 = nI N := (hsJ.r (by decide)).trans v.2.2.1
    have hc1 : ¬ nI N ≤ nI c := nI_ge (by omega) (by omega)
    refine gp_iload_n dX9_pair_28 rfl ?_
    refine gp_aload_n dX9_pair_29 rfl ?_
    refine gp_giv dX9_pair_30 mf_9_117 (by decide) (by first | rfl | assumption | (simp only [*]; done)) (by first | exact m0 | exact rfl) ?_
    refine gp_icc (t := 102) dX9_pair_33 (by decide) c2_ge (fun h1 => ?_) (fun h1 => ?_)
    · exact absurd h1 hc1
    · have h1' := Int32.not_le.mp h1
      refine gp_iload_n dX9_pair_36 rfl ?_
      refine gp_pu (st' := .int (1) :: _) dX9_pair_37 rfl ?_
      refine gp_pu (st' := .int _ :: _) dX9_pair_38 rfl ?_
      refine gp_istore (ls' := [some (.ref _), some (.int _), some (.int _), some (.int _), some (.int _), _]) dX9_pair_39 rfl (Nat.le_of_ble_eq_true rfl) ?_
      (rw [nI_1]
       refine lp_mpi d v hS0 c (by omega) _ (N - (c + 1)) (c + 1) s l v5 J (by omega) hsJ hrl ?_
       intro v l K hK hr
       refine gp_iinc (v := (1)) (ls' := [some (.ref _), some (.int _), some (.int _), some (.int _), some (.int _), _]) dX9_pair_96 rfl (by decide) rfl ?_
       refine gp_goto (t := 28) dX9_pair_99 (by decide) ?_
       (rw [nI_1]; exact ih (c + 1) _ _ _ v K (by omega) hK hr))

set_option maxHeartbeats 400000 in
theorem ml_pair (d : Nat) (v : vN I N S) (hs : mR I C J)  : cP (d + 9) 196 [.ref 108] (mm_sh, mm_R, J, L) (pX (some (.int (vq (w_pa N S) (y_po (prT I) N N 0 (-1, 1000)).1))) L (mR (rM I (w_pa N S)) C)) := by
  have m0 : J 108 0 = nI N := (hs.r (by decide)).trans v.2.2.1
  have m1 : J 108 1 = nI S := (hs.r (by decide)).trans v.2.2.2.1
  refine cP.of_gP (d := d + 8) me_196 ⟨Nat.le_of_ble_eq_true rfl, rfl⟩ ?_
  show gP mm_cs0 _ _ _ _ _ _ [some (.ref _), none, none, none, none, none] [] _ _
  refine gp_aload_n dX9_pair_0 rfl ?_
  refine gp_giv dX9_pair_1 mf_9_117 (by decide) (by first | rfl | assumption | (simp only [*]; done)) (by first | exact m0 | exact m1 | exact rfl) ?_
  refine gp_pu (st' := .int (2) :: _) dX9_pair_4 rfl ?_
  refine gp_icc (t := 15) dX9_pair_5 (by decide) c2_lt (fun h1 => ?_) (fun h1 => ?_)
  · have h1' := Int32.not_le.mpr h1
    (try simp only [Classical.not_not, m0, m1, nI_0f v.2.1, nI_2 v.1] at h1)
    refine gp_aload_n dX9_pair_15 rfl ?_
    refine gp_pu (st' := .int (-5) :: _) dX9_pair_16 rfl ?_
    refine gp_call (kind := 1) (args := [.ref _, .int _]) (rest := _) dX9_pair_18 (Or.inr (Or.inl ⟨rfl, rfl⟩)) mk_9_127 (by decide) me_127 rfl rfl rfl rfl rfl (mm_rc_of (by first | rfl | assumption | (simp only [*]; done))) (ok_X9_no _ _ _ _ (by decide)) rfl ?_
    refine gp_iret dX9_pair_21 rfl ?_
    first | (refine mNo ?zqa ?zqc hs; (case zqa => (first | ((simp [w_pa, *]; done)) | (exfalso; first | contradiction | (simp_all; done)))); (case zqc => (unfold isW; decide)))
  · have h1' := Int32.not_lt.mp h1
    (try simp only [Classical.not_not, m0, m1, nI_0f v.2.1, nI_2 v.1] at h1)
    refine gp_aload_n dX9_pair_8 rfl ?_
    refine gp_giv dX9_pair_9 mf_9_120 (by decide) (by first | rfl | assumption | (simp only [*]; done)) (by first | exact m0 | exact m1 | exact rfl) ?_
    refine gp_ifc (t := 22) dX9_pair_12 (by decide) c1_ne (fun h2 => ?_) (fun h2 => ?_)
    · (try simp only [Classical.not_not, m0, m1, nI_0f v.2.1, nI_2 v.1] at h2)
      refine gp_pu (st' := .int (-1) :: _) dX9_pair_22 rfl ?_
      refine gp_istore_n (ls' := [some (.ref _), some (.int _), none, none, none, none]) dX9_pair_23 rfl (Nat.le_of_ble_eq_true rfl) ?_
      refine gp_pu (st' := .int (0) :: _) dX9_pair_24 rfl ?_
      refine gp_istore_n (ls' := [some (.ref _), some (.int _), some (.int _), none, none, none]) dX9_pair_25 rfl (Nat.le_of_ble_eq_true rfl) ?_
      refine gp_pu (st' := .int (0) :: _) dX9_pair_26 rfl ?_
      refine gp_istore_n (ls' := [some (.ref _), some (.int _), some (.int _), some (.int _), none, none]) dX9_pair_27 rfl (Nat.le_of_ble_eq_true rfl) ?_
      (have hw : w_pa N S = 0 := by simp [w_pa, *])
      rw [hw]
      exact lp_mpo d v (by omega) N 0 (-1, 1000) 0 none none J (by omega) hs (Or.inl ⟨rfl, rfl⟩)
    · (try simp only [Classical.not_not, m0, m1, nI_0f v.2.1, nI_2 v.1] at h2)
      refine gp_aload_n dX9_pair_15 rfl ?_
      refine gp_pu (st' := .int (-5) :: _) dX9_pair_16 rfl ?_
      refine gp_call (kind := 1) (args := [.ref _, .int _]) (rest := _) dX9_pair_18 (Or.inr (Or.inl ⟨rfl, rfl⟩)) mk_9_127 (by decide) me_127 rfl rfl rfl rfl rfl (mm_rc_of (by first | rfl | assumption | (simp only [*]; done))) (ok_X9_no _ _ _ _ (by decide)) rfl ?_
      refine gp_iret dX9_pair_21 rfl ?_
      first | (refine mNo ?zqa ?zqc hs; (case zqa => (first | ((simp [w_pa, *]; done)) | (exfalso; first | contradiction | (simp_all; done)))); (case zqc => (unfold isW; decide)))

theorem eq_pair  : eqc 83 196 [] := by
  refine eqc_q fun I L hR => ?_
  obtain ⟨N, S, hb, hS, hL, hK, hT, hW, hE⟩ := hR
  refine ⟨_, w_pa N S, w_pa_w N S, cl_pair 34 hb, fun C J hs => ml_pair 31 hb.1 hs⟩
end P75
