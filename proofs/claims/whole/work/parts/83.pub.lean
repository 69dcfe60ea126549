/-! PUBLIC METHODS: act -/
section P83
variable {I C J : pI} {L : pL} {N S : Nat}

def nlm : pI → Nat → List Int32 → pI
  | J, _, [] => J
  | J, r, b :: B => nlm (mm_u (mm_u J 137 r b) 108 57 (nI (r + 1))) (r + 1) B
theorem nlm_app (A : List Int32) : ∀ (J : pI) (r : Nat) (B : List Int32), nlm (nlm J r A) (r + A.length) B = nlm J r (A ++ B) := by
  induction A with
  | nil => intro J r B; rfl
  | cons b A ih =>
    intro J r B
    show nlm (nlm _ (r + 1) A) (r + (A.length + 1)) B = nlm _ (r + 1) (A ++ B)
    rw [show r + (A.length + 1) = r + 1 + A.length by omega]
    exact ih _ _ _
theorem nlm_1 (B : List Int32) : ∀ (J : pI) (r : Nat), J 108 57 = nI r → nlm J r B 108 57 = nI (r + B.length) := by
  induction B with
  | nil => intro J r h; exact h
  | cons b B ih =>
    intro J r h
    show nlm _ (r + 1) B 108 57 = nI (r + (B.length + 1))
    rw [ih _ _ (mm_u_s _ _ _ _), show r + 1 + B.length = r + (B.length + 1) by omega]
theorem nlm_o (B : List Int32) : ∀ (J : pI) (r : Nat) {k j : Nat}, (k = 108 → j ≠ 57) → k ≠ 137 → nlm J r B k j = J k j := by
  induction B with
  | nil => intro J r k j _ _; rfl
  | cons b B ih =>
    intro J r k j h h2
    show nlm _ (r + 1) B k j = J k j
    rw [ih _ _ h h2, mm_u_i, if_neg (fun z => h z.1 z.2), mm_u_i, if_neg (fun z => h2 z.1)]
theorem nlm_110 (B : List Int32) (J : pI) (r j : Nat) : nlm J r B 110 j = J 110 j := nlm_o B J r (fun z => absurd z (by decide)) (by decide)
theorem nlm_111 (B : List Int32) (J : pI) (r j : Nat) : nlm J r B 111 j = J 111 j := nlm_o B J r (fun z => absurd z (by decide)) (by decide)
theorem mR.nlm (B : List Int32) : ∀ {I J : pI} (r : Nat), mR I C J → mR (nlm I r B) C (nlm J r B) := by
  induction B with
  | nil => intro I J r h; exact h
  | cons b B ih =>
    intro I J r h
    exact ih (r + 1) ((h.uu (k := 137) (j := r) (v := b) (by decide)).uu (k := 108) (j := 57) (v := nI (r + 1)) (by decide))
/-- both traces alike -/
def trE (I J : pI) : Prop := I 71 1 = J 108 57 ∧ ∀ i, i < 20 → I 72 i = J 137 i
theorem trE.step {I J : pI} (h : ∀ i, i < 20 → I 72 i = J 137 i) (B : List Int32) : ∀ (r : Nat), I 71 1 = nI r → J 108 57 = nI r → trE (nls I r B) (nlm J r B) := by
  induction B generalizing I J with
  | nil => intro r h1 h2; exact ⟨h1.trans h2.symm, h⟩
  | cons b B ih =>
    intro r h1 h2
    refine ih (fun i hi => ?_) (r + 1) (mm_u_s _ _ _ _) (mm_u_s _ _ _ _)
    rw [mm_u_o _ _ _ _ (by decide : (72 : Nat) ≠ 71), mm_u_o _ _ _ _ (by decide : (137 : Nat) ≠ 108), mm_u_i, mm_u_i]
    by_cases z : i = r
    · rw [if_pos ⟨rfl, z⟩, if_pos ⟨rfl, z⟩]
    · rw [if_neg (fun q => z q.2), if_neg (fun q => z q.2)]; exact h i hi
/-- what a move of kind k, number m, a, with x answers; its bodies -/
def actV (k mv : Nat) (m a x : Int32) : Int32 := match k, mv with
  | 0, 0 => (x + m)
  | 0, 1 => ((x + m) * 2)
  | 0, 2 => (((x + m) * 2) ^^^ ((x - a) + m))
  | 1, 0 => ((x + m) + a)
  | 1, 1 => (((x + m) + a) * 2)
  | 1, 2 => ((((x + m) + a) * 2) ^^^ (((x - a) + m) + a))
  | 2, 0 => (x + m)
  | 2, 1 => (((x + m) * 2) * 3)
  | 2, 2 => ((((x + m) * 2) * 3) ^^^ ((x - a) + m))
  | 3, 0 => ((x + m) + a)
  | 3, 1 => ((((x + 1) + m) + a) * 2)
  | 3, 2 => (((((x + 1) + m) + a) * 2) ^^^ (((x - a) + m) + a))
  | 4, 0 => ((x + m) - m)
  | 4, 1 => (((x + m) - m) * 2)
  | 4, 2 => (-((((x + m) - m) * 2) ^^^ (((x - a) + m) - m)))
  | 5, 0 => (x + m)
  | 5, 1 => (((x + m) * 2) * 3)
  | 5, 2 => (((((x + m) * 2) * 3) ^^^ ((x - a) + m)) ^^^ 5)
  | 6, 0 => (((x + m) - m) * 2)
  | 6, 1 => (((((x - a) + m) - m) * 2) * 2)
  | 6, 2 => (-((((((x - a) + m) - m) * 2) * 2) ^^^ ((((x - a) + m) - m) * 2)))
  | _, _ => 0
def actB (k mv : Nat) : List Int32 := match k, mv with
  | 0, 0 => [10]
  | 0, 1 => [11, 10]
  | 0, 2 => [12, 11, 10, 10]
  | 1, 0 => [20, 10]
  | 1, 1 => [11, 20, 10]
  | 1, 2 => [12, 11, 20, 10, 20, 10]
  | 2, 0 => [10]
  | 2, 1 => [30, 11, 10]
  | 2, 2 => [12, 30, 11, 10, 10]
  | 3, 0 => [20, 10]
  | 3, 1 => [40, 11, 20, 10]
  | 3, 2 => [12, 40, 11, 20, 10, 20, 10]
  | 4, 0 => [51, 10]
  | 4, 1 => [11, 51, 10]
  | 4, 2 => [50, 12, 11, 51, 10, 51, 10]
  | 5, 0 => [10]
  | 5, 1 => [30, 11, 10]
  | 5, 2 => [60, 12, 30, 11, 10, 10]
  | 6, 0 => [70, 51, 10]
  | 6, 1 => [71, 11, 70, 51, 10]
  | 6, 2 => [50, 12, 71, 11, 70, 51, 10, 70, 51, 10]
  | _, _ => []

set_option maxHeartbeats 400000 in
theorem cb_body (d : Nat) {r : Nat} (hr : r < 20) (hr1 : J 108 57 = nI r) {b : Int32} : cP (d + 1) 212 [.ref 108, .int b] (mm_sh, mm_R, J, L) (pX none L (fun K => K = nlm J r [b])) := by
  have zqi : mm_in (nI r) 20 = true := (mm_in_i (by omega)).mpr ⟨nI_pos' (by omega), nI_lt (b := 20) hr (by omega)⟩
  refine cP.of_gP (d := d + 0) me_212 ⟨Nat.le_of_ble_eq_true rfl, rfl⟩ ?_
  show gP mm_cs0 _ _ _ _ _ _ [some (.ref _), some (.int _)] [] _ _
  refine gp_aload_n dX9_body_0 rfl ?_
  refine gp_giv dX9_body_1 mf_9_346 (by decide) (by first | rfl | assumption | (simp only [*]; done)) (by first | exact hr1 | exact rfl) ?_
  refine gp_pu (st' := .int (20) :: _) dX9_body_4 rfl ?_
  refine gp_icc (t := 19) dX9_body_6 (by decide) c2_ge (fun h1 => ?_) (fun h1 => ?_)
  · exact absurd h1 (nI_ge (b := 20) hr (by omega))
  · have h1' := Int32.not_le.mp h1
    refine gp_aload_n dX9_body_9 rfl ?_
    refine gp_gr dX9_body_10 mf_9_114 rfl (by first | rfl | assumption | (simp only [*]; done)) (by first | rfl | assumption | (simp only [*]; done)) ?_
    refine gp_aload_n dX9_body_13 rfl ?_
    refine gp_giv dX9_body_14 mf_9_346 (by decide) (by first | rfl | assumption | (simp only [*]; done)) (by first | exact hr1 | exact rfl) ?_
    refine gp_iload_n dX9_body_17 rfl ?_
    refine gp_ias dX9_body_18 (by first | rfl | assumption | (simp only [*]; done)) (by first | rfl | assumption | (simp only [*]; done)) ?_
    refine gp_aload_n dX9_body_19 rfl ?_
    refine gp_pu dX9_body_20 rfl ?_
    refine gp_giv dX9_body_21 mf_9_346 (by decide) (by first | rfl | assumption | (simp only [*]; done)) (by first | exact hr1 | exact rfl) ?_
    refine gp_pu (st' := .int (1) :: _) dX9_body_24 rfl ?_
    refine gp_pu (st' := .int _ :: _) dX9_body_25 rfl ?_
    refine gp_pi dX9_body_26 mf_9_346 rfl rfl (by first | rfl | assumption | (simp only [*]; done)) ?_
    refine gp_vret dX9_body_29 rfl ?_
    refine pX.mk rfl ?_
    show mm_u (mm_u J 137 (nI r).toNatClampNeg b) 108 57 (nI r + 1) = mm_u (mm_u J 137 r b) 108 57 (nI (r + 1))
    rw [nI_1, nI_clamp (by omega)]

set_option maxHeartbeats 400000 in
theorem hp_0 (d : Nat) {c x a : Int32} {r : Nat} (hc8 : mm_in c 8 = true) (hkk : J 110 c.toNatClampNeg = 0) (hpa : J 111 c.toNatClampNeg = a) (hr1 : J 108 57 = nI r) (hr : r + 1 ≤ 20) : cP (d + 2) 213 [.ref 108, .int c, .int x] (mm_sh, mm_R, J, L) (pX (some (.int (x + c))) L (fun K => K = nlm J r [10])) := by
  refine cP.of_gP (d := d + 1) me_213 ⟨Nat.le_of_ble_eq_true rfl, rfl⟩ ?_
  show gP mm_cs0 _ _ _ _ _ _ [some (.ref _), some (.int _), some (.int _), none, none] [] _ _
  refine gp_aload_n dX9_hopping_0 rfl ?_
  refine gp_gr dX9_hopping_1 mf_9_32 rfl (by first | rfl | assumption | (simp only [*]; done)) (by first | rfl | assumption | (simp only [*]; done)) ?_
  refine gp_iload_n dX9_hopping_4 rfl ?_
  refine gp_ialv dX9_hopping_5 rfl (by first | rfl | assumption | (simp only [*]; done)) (by first | rfl | assumption | (simp only [*]; done)) (by first | exact hkk | exact hpa | exact (nlm_111 _ _ _ _).trans hpa | exact rfl) ?_
  refine gp_istore_n (ls' := [some (.ref _), some (.int _), some (.int _), some (.int _), none]) dX9_hopping_6 rfl (Nat.le_of_ble_eq_true rfl) ?_
  refine gp_iload_n dX9_hopping_7 rfl ?_
  refine gp_pu (st' := .int (6) :: _) dX9_hopping_8 rfl ?_
  refine gp_icc (t := 19) dX9_hopping_10 (by decide) c2_ne (fun h1 => ?_) (fun h1 => ?_)
  · refine gp_iload_n dX9_hopping_19 rfl ?_
    refine gp_pu (st' := .int (4) :: _) dX9_hopping_20 rfl ?_
    refine gp_icc (t := 30) dX9_hopping_21 (by decide) c2_eq (fun h2 => ?_) (fun h2 => ?_)
    · exact absurd h2 (by decide)
    · refine gp_iload_n dX9_hopping_24 rfl ?_
      refine gp_pu (st' := .int (6) :: _) dX9_hopping_25 rfl ?_
      refine gp_icc (t := 36) dX9_hopping_27 (by decide) c2_ne (fun h3 => ?_) (fun h3 => ?_)
      · refine gp_iload_n dX9_hopping_36 rfl ?_
        refine gp_pu (st' := .int (1) :: _) dX9_hopping_37 rfl ?_
        refine gp_icc (t := 46) dX9_hopping_38 (by decide) c2_eq (fun h4 => ?_) (fun h4 => ?_)
        · exact absurd h4 (by decide)
        · refine gp_iload_n dX9_hopping_41 rfl ?_
          refine gp_pu (st' := .int (3) :: _) dX9_hopping_42 rfl ?_
          refine gp_icc (t := 52) dX9_hopping_43 (by decide) c2_ne (fun h5 => ?_) (fun h5 => ?_)
          · refine gp_aload_n dX9_hopping_52 rfl ?_
            refine gp_pu (st' := .int (10) :: _) dX9_hopping_53 rfl ?_
            refine gp_callX (kind := 1) (args := [.ref _, .int _]) (rest := _) dX9_hopping_55 (Or.inr (Or.inl ⟨rfl, rfl⟩)) mk_9_349 (by decide) me_212 rfl rfl rfl rfl rfl (mm_rc_of (by first | rfl | assumption | (simp only [*]; done))) (cb_body _ (by omega) hr1) ?_
            intro K1 hK1
            rw [hK1]
            refine gp_iload_n dX9_hopping_58 rfl ?_
            refine gp_iload_n dX9_hopping_59 rfl ?_
            refine gp_pu (st' := .int _ :: _) dX9_hopping_60 rfl ?_
            refine gp_istore (ls' := [some (.ref _), some (.int _), some (.int _), some (.int _), some (.int _)]) dX9_hopping_61 rfl (Nat.le_of_ble_eq_true rfl) ?_
            refine gp_iload_n dX9_hopping_63 rfl ?_
            refine gp_pu (st' := .int (1) :: _) dX9_hopping_64 rfl ?_
            refine gp_icc (t := 73) dX9_hopping_65 (by decide) c2_eq (fun h6 => ?_) (fun h6 => ?_)
            · exact absurd h6 (by decide)
            · refine gp_iload_n dX9_hopping_68 rfl ?_
              refine gp_pu (st' := .int (3) :: _) dX9_hopping_69 rfl ?_
              refine gp_icc (t := 84) dX9_hopping_70 (by decide) c2_ne (fun h7 => ?_) (fun h7 => ?_)
              · refine gp_iload_n dX9_hopping_84 rfl ?_
                refine gp_pu (st' := .int (4) :: _) dX9_hopping_85 rfl ?_
                refine gp_icc (t := 95) dX9_hopping_86 (by decide) c2_eq (fun h8 => ?_) (fun h8 => ?_)
                · exact absurd h8 (by decide)
                · refine gp_iload_n dX9_hopping_89 rfl ?_
                  refine gp_pu (st' := .int (6) :: _) dX9_hopping_90 rfl ?_
                  refine gp_icc (t := 101) dX9_hopping_92 (by decide) c2_ne (fun h9 => ?_) (fun h9 => ?_)
                  · refine gp_iload_n dX9_hopping_101 rfl ?_
                    refine gp_pu (st' := .int (6) :: _) dX9_hopping_102 rfl ?_
                    refine gp_icc (t := 114) dX9_hopping_104 (by decide) c2_ne (fun h10 => ?_) (fun h10 => ?_)
                    · refine gp_iload dX9_hopping_114 rfl ?_
                      refine gp_iret dX9_hopping_116 rfl ?_
                      exact pX.mk rfl rfl
                    · exact absurd (by decide) h10
                  · exact absurd (by decide) h9
              · exact absurd (by decide) h7
          · exact absurd (by decide) h5
      · exact absurd (by decide) h3
  · exact absurd (by decide) h1

set_option maxHeartbeats 400000 in
theorem hp_1 (d : Nat) {c x a : Int32} {r : Nat} (hc8 : mm_in c 8 = true) (hkk : J 110 c.toNatClampNeg = 1) (hpa : J 111 c.toNatClampNeg = a) (hr1 : J 108 57 = nI r) (hr : r + 2 ≤ 20) : cP (d + 2) 213 [.ref 108, .int c, .int x] (mm_sh, mm_R, J, L) (pX (some (.int ((x + c) + a))) L (fun K => K = nlm J r [20, 10])) := by
  refine cP.of_gP (d := d + 1) me_213 ⟨Nat.le_of_ble_eq_true rfl, rfl⟩ ?_
  show gP mm_cs0 _ _ _ _ _ _ [some (.ref _), some (.int _), some (.int _), none, none] [] _ _
  refine gp_aload_n dX9_hopping_0 rfl ?_
  refine gp_gr dX9_hopping_1 mf_9_32 rfl (by first | rfl | assumption | (simp only [*]; done)) (by first | rfl | assumption | (simp only [*]; done)) ?_
  refine gp_iload_n dX9_hopping_4 rfl ?_
  refine gp_ialv dX9_hopping_5 rfl (by first | rfl | assumption | (simp only [*]; done)) (by first | rfl | assumption | (simp only [*]; done)) (by first | exact hkk | exact hpa | exact (nlm_111 _ _ _ _).trans hpa | exact rfl) ?_
  refine gp_istore_n (ls' := [some (.ref _), some (.int _), some (.int _), some (.int _), none]) dX9_hopping_6 rfl (Nat.le_of_ble_eq_true rfl) ?_
  refine gp_iload_n dX9_hopping_7 rfl ?_
  refine gp_pu (st' := .int (6) :: _) dX9_hopping_8 rfl ?_
  refine gp_icc (t := 19) dX9_hopping_10 (by decide) c2_ne (fun h1 => ?_) (fun h1 => ?_)
  · refine gp_iload_n dX9_hopping_19 rfl ?_
    refine gp_pu (st' := .int (4) :: _) dX9_hopping_20 rfl ?_
    refine gp_icc (t := 30) dX9_hopping_21 (by decide) c2_eq (fun h2 => ?_) (fun h2 => ?_)
    · exact absurd h2 (by decide)
    · refine gp_iload_n dX9_hopping_24 rfl ?_
      refine gp_pu (st' := .int (6) :: _) dX9_hopping_25 rfl ?_
      refine gp_icc (t := 36) dX9_hopping_27 (by decide) c2_ne (fun h3 => ?_) (fun h3 => ?_)
      · refine gp_iload_n dX9_hopping_36 rfl ?_
        refine gp_pu (st' := .int (1) :: _) dX9_hopping_37 rfl ?_
        refine gp_icc (t := 46) dX9_hopping_38 (by decide) c2_eq (fun h4 => ?_) (fun h4 => ?_)
        · refine gp_aload_n dX9_hopping_46 rfl ?_
          refine gp_pu (st' := .int (20) :: _) dX9_hopping_47 rfl ?_
          refine gp_callX (kind := 1) (args := [.ref _, .int _]) (rest := _) dX9_hopping_49 (Or.inr (Or.inl ⟨rfl, rfl⟩)) mk_9_349 (by decide) me_212 rfl rfl rfl rfl rfl (mm_rc_of (by first | rfl | assumption | (simp only [*]; done))) (cb_body _ (by omega) hr1) ?_
          intro K1 hK1
          rw [hK1]
          refine gp_aload_n dX9_hopping_52 rfl ?_
          refine gp_pu (st' := .int (10) :: _) dX9_hopping_53 rfl ?_
          refine gp_callX (kind := 1) (args := [.ref _, .int _]) (rest := _) dX9_hopping_55 (Or.inr (Or.inl ⟨rfl, rfl⟩)) mk_9_349 (by decide) me_212 rfl rfl rfl rfl rfl (mm_rc_of (by first | rfl | assumption | (simp only [*]; done))) (cb_body (r := r + 1) _ (by omega) (nlm_1 [20] J r hr1)) ?_
          intro K2 hK2
          rw [hK2, show nlm (nlm J r [20]) (r + 1) [10] = nlm J r [20, 10] from nlm_app [20] J r [10]]
          refine gp_iload_n dX9_hopping_58 rfl ?_
          refine gp_iload_n dX9_hopping_59 rfl ?_
          refine gp_pu (st' := .int _ :: _) dX9_hopping_60 rfl ?_
          refine gp_istore (ls' := [some (.ref _), some (.int _), some (.int _), some (.int _), some (.int _)]) dX9_hopping_61 rfl (Nat.le_of_ble_eq_true rfl) ?_
          refine gp_iload_n dX9_hopping_63 rfl ?_
          refine gp_pu (st' := .int (1) :: _) dX9_hopping_64 rfl ?_
          refine gp_icc (t := 73) dX9_hopping_65 (by decide) c2_eq (fun h5 => ?_) (fun h5 => ?_)
          · refine gp_iload dX9_hopping_73 rfl ?_
            refine gp_aload_n dX9_hopping_75 rfl ?_
            refine gp_gr dX9_hopping_76 mf_9_35 rfl (by first | rfl | assumption | (simp only [*]; done)) (by first | rfl | assumption | (simp only [*]; done)) ?_
            refine gp_iload_n dX9_hopping_79 rfl ?_
            refine gp_ialv dX9_hopping_80 rfl (by first | rfl | assumption | (simp only [*]; done)) (by first | rfl | assumption | (simp only [*]; done)) (by first | exact hkk | exact hpa | exact (nlm_111 _ _ _ _).trans hpa | exact rfl) ?_
            refine gp_pu (st' := .int _ :: _) dX9_hopping_81 rfl ?_
            refine gp_istore (ls' := [some (.ref _), some (.int _), some (.int _), some (.int _), some (.int _)]) dX9_hopping_82 rfl (Nat.le_of_ble_eq_true rfl) ?_
            refine gp_iload_n dX9_hopping_84 rfl ?_
            refine gp_pu (st' := .int (4) :: _) dX9_hopping_85 rfl ?_
            refine gp_icc (t := 95) dX9_hopping_86 (by decide) c2_eq (fun h6 => ?_) (fun h6 => ?_)
            · exact absurd h6 (by decide)
            · refine gp_iload_n dX9_hopping_89 rfl ?_
              refine gp_pu (st' := .int (6) :: _) dX9_hopping_90 rfl ?_
              refine gp_icc (t := 101) dX9_hopping_92 (by decide) c2_ne (fun h7 => ?_) (fun h7 => ?_)
              · refine gp_iload_n dX9_hopping_101 rfl ?_
                refine gp_pu (st' := .int (6) :: _) dX9_hopping_102 rfl ?_
                refine gp_icc (t := 114) dX9_hopping_104 (by decide) c2_ne (fun h8 => ?_) (fun h8 => ?_)
                · refine gp_iload dX9_hopping_114 rfl ?_
                  refine gp_iret dX9_hopping_116 rfl ?_
                  exact pX.mk rfl rfl
                · exact absurd (by decide) h8
              · exact absurd (by decide) h7
          · exact absurd (by decide) h5
        · exact absurd (by decide) h4
      · exact absurd (by decide) h3
  · exact absurd (by decide) h1

set_option maxHeartbeats 400000 in
theorem hp_2 (d : Nat) {c x a : Int32} {r : Nat} (hc8 : mm_in c 8 = true) (hkk : J 110 c.toNatClampNeg = 2) (hpa : J 111 c.toNatClampNeg = a) (hr1 : J 108 57 = nI r) (hr : r + 1 ≤ 20) : cP (d + 2) 213 [.ref 108, .int c, .int x] (mm_sh, mm_R, J, L) (pX (some (.int (x + c))) L (fun K => K = nlm J r [10])) := by
  refine cP.of_gP (d := d + 1) me_213 ⟨Nat.le_of_ble_eq_true rfl, rfl⟩ ?_
  show gP mm_cs0 _ _ _ _ _ _ [some (.ref _), some (.int _), some (.int _), none, none] [] _ _
  refine gp_aload_n dX9_hopping_0 rfl ?_
  refine gp_gr dX9_hopping_1 mf_9_32 rfl (by first | rfl | assumption | (simp only [*]; done)) (by first | rfl | assumption | (simp only [*]; done)) ?_
  refine gp_iload_n dX9_hopping_4 rfl ?_
  refine gp_ialv dX9_hopping_5 rfl (by first | rfl | assumption | (simp only [*]; done)) (by first | rfl | assumption | (simp only [*]; done)) (by first | exact hkk | exact hpa | exact (nlm_111 _ _ _ _).trans hpa | exact rfl) ?_
  refine gp_istore_n (ls' := [some (.ref _), some (.int _), some (.int _), some (.int _), none]) dX9_hopping_6 rfl (Nat.le_of_ble_eq_true rfl) ?_
  refine gp_iload_n dX9_hopping_7 rfl ?_
  refine gp_pu (st' := .int (6) :: _) dX9_hopping_8 rfl ?_
  refine gp_icc (t := 19) dX9_hopping_10 (by decide) c2_ne (fun h1 => ?_) (fun h1 => ?_)
  · refine gp_iload_n dX9_hopping_19 rfl ?_
    refine gp_pu (st' := .int (4) :: _) dX9_hopping_20 rfl ?_
    refine gp_icc (t := 30) dX9_hopping_21 (by decide) c2_eq (fun h2 => ?_) (fun h2 => ?_)
    · exact absurd h2 (by decide)
    · refine gp_iload_n dX9_hopping_24 rfl ?_
      refine gp_pu (st' := .int (6) :: _) dX9_hopping_25 rfl ?_
      refine gp_icc (t := 36) dX9_hopping_27 (by decide) c2_ne (fun h3 => ?_) (fun h3 => ?_)
      · refine gp_iload_n dX9_hopping_36 rfl ?_
        refine gp_pu (st' := .int (1) :: _) dX9_hopping_37 rfl ?_
        refine gp_icc (t := 46) dX9_hopping_38 (by decide) c2_eq (fun h4 => ?_) (fun h4 => ?_)
        · exact absurd h4 (by decide)
        · refine gp_iload_n dX9_hopping_41 rfl ?_
          refine gp_pu (st' := .int (3) :: _) dX9_hopping_42 rfl ?_
          refine gp_icc (t := 52) dX9_hopping_43 (by decide) c2_ne (fun h5 => ?_) (fun h5 => ?_)
          · refine gp_aload_n dX9_hopping_52 rfl ?_
            refine gp_pu (st' := .int (10) :: _) dX9_hopping_53 rfl ?_
            refine gp_callX (kind := 1) (args := [.ref _, .int _]) (rest := _) dX9_hopping_55 (Or.inr (Or.inl ⟨rfl, rfl⟩)) mk_9_349 (by decide) me_212 rfl rfl rfl rfl rfl (mm_rc_of (by first | rfl | assumption | (simp only [*]; done))) (cb_body _ (by omega) hr1) ?_
            intro K1 hK1
            rw [hK1]
            refine gp_iload_n dX9_hopping_58 rfl ?_
            refine gp_iload_n dX9_hopping_59 rfl ?_
            refine gp_pu (st' := .int _ :: _) dX9_hopping_60 rfl ?_
            refine gp_istore (ls' := [some (.ref _), some (.int _), some (.int _), some (.int _), some (.int _)]) dX9_hopping_61 rfl (Nat.le_of_ble_eq_true rfl) ?_
            refine gp_iload_n dX9_hopping_63 rfl ?_
            refine gp_pu (st' := .int (1) :: _) dX9_hopping_64 rfl ?_
            refine gp_icc (t := 73) dX9_hopping_65 (by decide) c2_eq (fun h6 => ?_) (fun h6 => ?_)
            · exact absurd h6 (by decide)
            · refine gp_iload_n dX9_hopping_68 rfl ?_
              refine gp_pu (st' := .int (3) :: _) dX9_hopping_69 rfl ?_
              refine gp_icc (t := 84) dX9_hopping_70 (by decide) c2_ne (fun h7 => ?_) (fun h7 => ?_)
              · refine gp_iload_n dX9_hopping_84 rfl ?_
                refine gp_pu (st' := .int (4) :: _) dX9_hopping_85 rfl ?_
                refine gp_icc (t := 95) dX9_hopping_86 (by decide) c2_eq (fun h8 => ?_) (fun h8 => ?_)
                · exact absurd h8 (by decide)
                · refine gp_iload_n dX9_hopping_89 rfl ?_
                  refine gp_pu (st' := .int (6) :: _) dX9_hopping_90 rfl ?_
                  refine gp_icc (t := 101) dX9_hopping_92 (by decide) c2_ne (fun h9 => ?_) (fun h9 => ?_)
                  · refine gp_iload_n dX9_hopping_101 rfl ?_
                    refine gp_pu (st' := .int (6) :: _) dX9_hopping_102 rfl ?_
                    refine gp_icc (t := 114) dX9_hopping_104 (by decide) c2_ne (fun h10 => ?_) (fun h10 => ?_)
                    · refine gp_iload dX9_hopping_114 rfl ?_
                      refine gp_iret dX9_hopping_116 rfl ?_
                      exact pX.mk rfl rfl
                    · exact absurd (by decide) h10
                  · exact absurd (by decide) h9
              · exact absurd (by decide) h7
          · exact absurd (by decide) h5
      · exact absurd (by decide) h3
  · exact absurd (by decide) h1

set_option maxHeartbeats 400000 in
theorem hp_3 (d : Nat) {c x a : Int32} {r : Nat} (hc8 : mm_in c 8 = true) (hkk : J 110 c.toNatClampNeg = 3) (hpa : J 111 c.toNatClampNeg = a) (hr1 : J 108 57 = nI r) (hr : r + 2 ≤ 20) : cP (d + 2) 213 [.ref 108, .int c, .int x] (mm_sh, mm_R, J, L) (pX (some (.int ((x + c) + a))) L (fun K => K = nlm J r [20, 10])) := by
  refine cP.of_gP (d := d + 1) me_213 ⟨Nat.le_of_ble_eq_true rfl, rfl⟩ ?_
  show gP mm_cs0 _ _ _ _ _ _ [some (.ref _), some (.int _), some (.int _), none, none] [] _ _
  refine gp_aload_n dX9_hopping_0 rfl ?_
  refine gp_gr dX9_hopping_1 mf_9_32 rfl (by first | rfl | assumption | (simp only [*]; done)) (by first | rfl | assumption | (simp only [*]; done)) ?_
  refine gp_iload_n dX9_hopping_4 rfl ?_
  refine gp_ialv dX9_hopping_5 rfl (by first | rfl | assumption | (simp only [*]; done)) (by first | rfl | assumption | (simp only [*]; done)) (by first | exact hkk | exact hpa | exact (nlm_111 _ _ _ _).trans hpa | exact rfl) ?_
  refine gp_istore_n (ls' := [some (.ref _), some (.int _), some (.int _), some (.int _), none]) dX9_hopping_6 rfl (Nat.le_of_ble_eq_true rfl) ?_
  refine gp_iload_n dX9_hopping_7 rfl ?_
  refine gp_pu (st' := .int (6) :: _) dX9_hopping_8 rfl ?_
  refine gp_icc (t := 19) dX9_hopping_10 (by decide) c2_ne (fun h1 => ?_) (fun h1 => ?_)
  · refine gp_iload_n dX9_hopping_19 rfl ?_
    refine gp_pu (st' := .int (4) :: _) dX9_hopping_20 rfl ?_
    refine gp_icc (t := 30) dX9_hopping_21 (by decide) c2_eq (fun h2 => ?_) (fun h2 => ?_)
    · exact absurd h2 (by decide)
    · refine gp_iload_n dX9_hopping_24 rfl ?_
      refine gp_pu (st' := .int (6) :: _) dX9_hopping_25 rfl ?_
      refine gp_icc (t := 36) dX9_hopping_27 (by decide) c2_ne (fun h3 => ?_) (fun h3 => ?_)
      · refine gp_iload_n dX9_hopping_36 rfl ?_
        refine gp_pu (st' := .int (1) :: _) dX9_hopping_37 rfl ?_
        refine gp_icc (t := 46) dX9_hopping_38 (by decide) c2_eq (fun h4 => ?_) (fun h4 => ?_)
        · exact absurd h4 (by decide)
        · refine gp_iload_n dX9_hopping_41 rfl ?_
          refine gp_pu (st' := .int (3) :: _) dX9_hopping_42 rfl ?_
          refine gp_icc (t := 52) dX9_hopping_43 (by decide) c2_ne (fun h5 => ?_) (fun h5 => ?_)
          · exact absurd h5 (by decide)
          · refine gp_aload_n dX9_hopping_46 rfl ?_
            refine gp_pu (st' := .int (20) :: _) dX9_hopping_47 rfl ?_
            refine gp_callX (kind := 1) (args := [.ref _, .int _]) (rest := _) dX9_hopping_49 (Or.inr (Or.inl ⟨rfl, rfl⟩)) mk_9_349 (by decide) me_212 rfl rfl rfl rfl rfl (mm_rc_of (by first | rfl | assumption | (simp only [*]; done))) (cb_body _ (by omega) hr1) ?_
            intro K1 hK1
            rw [hK1]
            refine gp_aload_n dX9_hopping_52 rfl ?_
            refine gp_pu (st' := .int (10) :: _) dX9_hopping_53 rfl ?_
            refine gp_callX (kind := 1) (args := [.ref _, .int _]) (rest := _) dX9_hopping_55 (Or.inr (Or.inl ⟨rfl, rfl⟩)) mk_9_349 (by decide) me_212 rfl rfl rfl rfl rfl (mm_rc_of (by first | rfl | assumption | (simp only [*]; done))) (cb_body (r := r + 1) _ (by omega) (nlm_1 [20] J r hr1)) ?_
            intro K2 hK2
            rw [hK2, show nlm (nlm J r [20]) (r + 1) [10] = nlm J r [20, 10] from nlm_app [20] J r [10]]
            refine gp_iload_n dX9_hopping_58 rfl ?_
            refine gp_iload_n dX9_hopping_59 rfl ?_
            refine gp_pu (st' := .int _ :: _) dX9_hopping_60 rfl ?_
            refine gp_istore (ls' := [some (.ref _), some (.int _), some (.int _), some (.int _), some (.int _)]) dX9_hopping_61 rfl (Nat.le_of_ble_eq_true rfl) ?_
            refine gp_iload_n dX9_hopping_63 rfl ?_
            refine gp_pu (st' := .int (1) :: _) dX9_hopping_64 rfl ?_
            refine gp_icc (t := 73) dX9_hopping_65 (by decide) c2_eq (fun h6 => ?_) (fun h6 => ?_)
            · exact absurd h6 (by decide)
            · refine gp_iload_n dX9_hopping_68 rfl ?_
              refine gp_pu (st' := .int (3) :: _) dX9_hopping_69 rfl ?_
              refine gp_icc (t := 84) dX9_hopping_70 (by decide) c2_ne (fun h7 => ?_) (fun h7 => ?_)
              · exact absurd h7 (by decide)
              · refine gp_iload dX9_hopping_73 rfl ?_
                refine gp_aload_n dX9_hopping_75 rfl ?_
                refine gp_gr dX9_hopping_76 mf_9_35 rfl (by first | rfl | assumption | (simp only [*]; done)) (by first | rfl | assumption | (simp only [*]; done)) ?_
                refine gp_iload_n dX9_hopping_79 rfl ?_
                refine gp_ialv dX9_hopping_80 rfl (by first | rfl | assumption | (simp only [*]; done)) (by first | rfl | assumption | (simp only [*]; done)) (by first | exact hkk | exact hpa | exact (nlm_111 _ _ _ _).trans hpa | exact rfl) ?_
                refine gp_pu (st' := .int _ :: _) dX9_hopping_81 rfl ?_
                refine gp_istore (ls' := [some (.ref _), some (.int _), some (.int _), some (.int _), some (.int _)]) dX9_hopping_82 rfl (Nat.le_of_ble_eq_true rfl) ?_
                refine gp_iload_n dX9_hopping_84 rfl ?_
                refine gp_pu (st' := .int (4) :: _) dX9_hopping_85 rfl ?_
                refine gp_icc (t := 95) dX9_hopping_86 (by decide) c2_eq (fun h8 => ?_) (fun h8 => ?_)
                · exact absurd h8 (by decide)
                · refine gp_iload_n dX9_hopping_89 rfl ?_
                  refine gp_pu (st' := .int (6) :: _) dX9_hopping_90 rfl ?_
                  refine gp_icc (t := 101) dX9_hopping_92 (by decide) c2_ne (fun h9 => ?_) (fun h9 => ?_)
                  · refine gp_iload_n dX9_hopping_101 rfl ?_
                    refine gp_pu (st' := .int (6) :: _) dX9_hopping_102 rfl ?_
                    refine gp_icc (t := 114) dX9_hopping_104 (by decide) c2_ne (fun h10 => ?_) (fun h10 => ?_)
                    · refine gp_iload dX9_hopping_114 rfl ?_
                      refine gp_iret dX9_hopping_116 rfl ?_
                      exact pX.mk rfl rfl
                    · exact absurd (by decide) h10
                  · exact absurd (by decide) h9
      · exact absurd (by decide) h3
  · exact absurd (by decide) h1

set_option maxHeartbeats 400000 in
theorem hp_4 (d : Nat) {c x a : Int32} {r : Nat} (hc8 : mm_in c 8 = true) (hkk : J 110 c.toNatClampNeg = 4) (hpa : J 111 c.toNatClampNeg = a) (hr1 : J 108 57 = nI r) (hr : r + 2 ≤ 20) : cP (d + 2) 213 [.ref 108, .int c, .int x] (mm_sh, mm_R, J, L) (pX (some (.int ((x + c) - c))) L (fun K => K = nlm J r [51, 10])) := by
  refine cP.of_gP (d := d + 1) me_213 ⟨Nat.le_of_ble_eq_true rfl, rfl⟩ ?_
  show gP mm_cs0 _ _ _ _ _ _ [some (.ref _), some (.int _), some (.int _), none, none] [] _ _
  refine gp_aload_n dX9_hopping_0 rfl ?_
  refine gp_gr dX9_hopping_1 mf_9_32 rfl (by first | rfl | assumption | (simp only [*]; done)) (by first | rfl | assumption | (simp only [*]; done)) ?_
  refine gp_iload_n dX9_hopping_4 rfl ?_
  refine gp_ialv dX9_hopping_5 rfl (by first | rfl | assumption | (simp only [*]; done)) (by first | rfl | assumption | (simp only [*]; done)) (by first | exact hkk | exact hpa | exact (nlm_111 _ _ _ _).trans hpa | exact rfl) ?_
  refine gp_istore_n (ls' := [some (.ref _), some (.int _), some (.int _), some (.int _), none]) dX9_hopping_6 rfl (Nat.le_of_ble_eq_true rfl) ?_
  refine gp_iload_n dX9_hopping_7 rfl ?_
  refine gp_pu (st' := .int (6) :: _) dX9_hopping_8 rfl ?_
  refine gp_icc (t := 19) dX9_hopping_10 (by decide) c2_ne (fun h1 => ?_) (fun h1 => ?_)
  · refine gp_iload_n dX9_hopping_19 rfl ?_
    refine gp_pu (st' := .int (4) :: _) dX9_hopping_20 rfl ?_
    refine gp_icc (t := 30) dX9_hopping_21 (by decide) c2_eq (fun h2 => ?_) (fun h2 => ?_)
    · refine gp_aload_n dX9_hopping_30 rfl ?_
      refine gp_pu (st' := .int (51) :: _) dX9_hopping_31 rfl ?_
      refine gp_callX (kind := 1) (args := [.ref _, .int _]) (rest := _) dX9_hopping_33 (Or.inr (Or.inl ⟨rfl, rfl⟩)) mk_9_349 (by decide) me_212 rfl rfl rfl rfl rfl (mm_rc_of (by first | rfl | assumption | (simp only [*]; done))) (cb_body _ (by omega) hr1) ?_
      intro K1 hK1
      rw [hK1]
      refine gp_iload_n dX9_hopping_36 rfl ?_
      refine gp_pu (st' := .int (1) :: _) dX9_hopping_37 rfl ?_
      refine gp_icc (t := 46) dX9_hopping_38 (by decide) c2_eq (fun h3 => ?_) (fun h3 => ?_)
      · exact absurd h3 (by decide)
      · refine gp_iload_n dX9_hopping_41 rfl ?_
        refine gp_pu (st' := .int (3) :: _) dX9_hopping_42 rfl ?_
        refine gp_icc (t := 52) dX9_hopping_43 (by decide) c2_ne (fun h4 => ?_) (fun h4 => ?_)
        · refine gp_aload_n dX9_hopping_52 rfl ?_
          refine gp_pu (st' := .int (10) :: _) dX9_hopping_53 rfl ?_
          refine gp_callX (kind := 1) (args := [.ref _, .int _]) (rest := _) dX9_hopping_55 (Or.inr (Or.inl ⟨rfl, rfl⟩)) mk_9_349 (by decide) me_212 rfl rfl rfl rfl rfl (mm_rc_of (by first | rfl | assumption | (simp only [*]; done))) (cb_body (r := r + 1) _ (by omega) (nlm_1 [51] J r hr1)) ?_
          intro K2 hK2
          rw [hK2, show nlm (nlm J r [51]) (r + 1) [10] = nlm J r [51, 10] from nlm_app [51] J r [10]]
          refine gp_iload_n dX9_hopping_58 rfl ?_
          refine gp_iload_n dX9_hopping_59 rfl ?_
          refine gp_pu (st' := .int _ :: _) dX9_hopping_60 rfl ?_
          refine gp_istore (ls' := [some (.ref _), some (.int _), some (.int _), some (.int _), some (.int _)]) dX9_hopping_61 rfl (Nat.le_of_ble_eq_true rfl) ?_
          refine gp_iload_n dX9_hopping_63 rfl ?_
          refine gp_pu (st' := .int (1) :: _) dX9_hopping_64 rfl ?_
          refine gp_icc (t := 73) dX9_hopping_65 (by decide) c2_eq (fun h5 => ?_) (fun h5 => ?_)
          · exact absurd h5 (by decide)
          · refine gp_iload_n dX9_hopping_68 rfl ?_
            refine gp_pu (st' := .int (3) :: _) dX9_hopping_69 rfl ?_
            refine gp_icc (t := 84) dX9_hopping_70 (by decide) c2_ne (fun h6 => ?_) (fun h6 => ?_)
            · refine gp_iload_n dX9_hopping_84 rfl ?_
              refine gp_pu (st' := .int (4) :: _) dX9_hopping_85 rfl ?_
              refine gp_icc (t := 95) dX9_hopping_86 (by decide) c2_eq (fun h7 => ?_) (fun h7 => ?_)
              · refine gp_iload dX9_hopping_95 rfl ?_
                refine gp_iload_n dX9_hopping_97 rfl ?_
                refine gp_pu (st' := .int _ :: _) dX9_hopping_98 rfl ?_
                refine gp_istore (ls' := [some (.ref _), some (.int _), some (.int _), some (.int _), some (.int _)]) dX9_hopping_99 rfl (Nat.le_of_ble_eq_true rfl) ?_
                refine gp_iload_n dX9_hopping_101 rfl ?_
                refine gp_pu (st' := .int (6) :: _) dX9_hopping_102 rfl ?_
                refine gp_icc (t := 114) dX9_hopping_104 (by decide) c2_ne (fun h8 => ?_) (fun h8 => ?_)
                · refine gp_iload dX9_hopping_114 rfl ?_
                  refine gp_iret dX9_hopping_116 rfl ?_
                  exact pX.mk rfl rfl
                · exact absurd (by decide) h8
              · exact absurd (by decide) h7
            · exact absurd (by decide) h6
        · exact absurd (by decide) h4
    · exact absurd (by decide) h2
  · exact absurd (by decide) h1

set_option maxHeartbeats 400000 in
theorem hp_5 (d : Nat) {c x a : Int32} {r : Nat} (hc8 : mm_in c 8 = true) (hkk : J 110 c.toNatClampNeg = 5) (hpa : J 111 c.toNatClampNeg = a) (hr1 : J 108 57 = nI r) (hr : r + 1 ≤ 20) : cP (d + 2) 213 [.ref 108, .int c, .int x] (mm_sh, mm_R, J, L) (pX (some (.int (x + c))) L (fun K => K = nlm J r [10])) := by
  refine cP.of_gP (d := d + 1) me_213 ⟨Nat.le_of_ble_eq_true rfl, rfl⟩ ?_
  show gP mm_cs0 _ _ _ _ _ _ [some (.ref _), some (.int _), some (.int _), none, none] [] _ _
  refine gp_aload_n dX9_hopping_0 rfl ?_
  refine gp_gr dX9_hopping_1 mf_9_32 rfl (by first | rfl | assumption | (simp only [*]; done)) (by first | rfl | assumption | (simp only [*]; done)) ?_
  refine gp_iload_n dX9_hopping_4 rfl ?_
  refine gp_ialv dX9_hopping_5 rfl (by first | rfl | assumption | (simp only [*]; done)) (by first | rfl | assumption | (simp only [*]; done)) (by first | exact hkk | exact hpa | exact (nlm_111 _ _ _ _).trans hpa | exact rfl) ?_
  refine gp_istore_n (ls' := [some (.ref _), some (.int _), some (.int _), some (.int _), none]) dX9_hopping_6 rfl (Nat.le_of_ble_eq_true rfl) ?_
  refine gp_iload_n dX9_hopping_7 rfl ?_
  refine gp_pu (st' := .int (6) :: _) dX9_hopping_8 rfl ?_
  refine gp_icc (t := 19) dX9_hopping_10 (by decide) c2_ne (fun h1 => ?_) (fun h1 => ?_)
  · refine gp_iload_n dX9_hopping_19 rfl ?_
    refine gp_pu (st' := .int (4) :: _) dX9_hopping_20 rfl ?_
    refine gp_icc (t := 30) dX9_hopping_21 (by decide) c2_eq (fun h2 => ?_) (fun h2 => ?_)
    · exact absurd h2 (by decide)
    · refine gp_iload_n dX9_hopping_24 rfl ?_
      refine gp_pu (st' := .int (6) :: _) dX9_hopping_25 rfl ?_
      refine gp_icc (t := 36) dX9_hopping_27 (by decide) c2_ne (fun h3 => ?_) (fun h3 => ?_)
      · refine gp_iload_n dX9_hopping_36 rfl ?_
        refine gp_pu (st' := .int (1) :: _) dX9_hopping_37 rfl ?_
        refine gp_icc (t := 46) dX9_hopping_38 (by decide) c2_eq (fun h4 => ?_) (fun h4 => ?_)
        · exact absurd h4 (by decide)
        · refine gp_iload_n dX9_hopping_41 rfl ?_
          refine gp_pu (st' := .int (3) :: _) dX9_hopping_42 rfl ?_
          refine gp_icc (t := 52) dX9_hopping_43 (by decide) c2_ne (fun h5 => ?_) (fun h5 => ?_)
          · refine gp_aload_n dX9_hopping_52 rfl ?_
            refine gp_pu (st' := .int (10) :: _) dX9_hopping_53 rfl ?_
            refine gp_callX (kind := 1) (args := [.ref _, .int _]) (rest := _) dX9_hopping_55 (Or.inr (Or.inl ⟨rfl, rfl⟩)) mk_9_349 (by decide) me_212 rfl rfl rfl rfl rfl (mm_rc_of (by first | rfl | assumption | (simp only [*]; done))) (cb_body _ (by omega) hr1) ?_
            intro K1 hK1
            rw [hK1]
            refine gp_iload_n dX9_hopping_58 rfl ?_
            refine gp_iload_n dX9_hopping_59 rfl ?_
            refine gp_pu (st' := .int _ :: _) dX9_hopping_60 rfl ?_
            refine gp_istore (ls' := [some (.ref _), some (.int _), some (.int _), some (.int _), some (.int _)]) dX9_hopping_61 rfl (Nat.le_of_ble_eq_true rfl) ?_
            refine gp_iload_n dX9_hopping_63 rfl ?_
            refine gp_pu (st' := .int (1) :: _) dX9_hopping_64 rfl ?_
            refine gp_icc (t := 73) dX9_hopping_65 (by decide) c2_eq (fun h6 => ?_) (fun h6 => ?_)
            · exact absurd h6 (by decide)
            · refine gp_iload_n dX9_hopping_68 rfl ?_
              refine gp_pu (st' := .int (3) :: _) dX9_hopping_69 rfl ?_
              refine gp_icc (t := 84) dX9_hopping_70 (by decide) c2_ne (fun h7 => ?_) (fun h7 => ?_)
              · refine gp_iload_n dX9_hopping_84 rfl ?_
                refine gp_pu (st' := .int (4) :: _) dX9_hopping_85 rfl ?_
                refine gp_icc (t := 95) dX9_hopping_86 (by decide) c2_eq (fun h8 => ?_) (fun h8 => ?_)
                · exact absurd h8 (by decide)
                · refine gp_iload_n dX9_hopping_89 rfl ?_
                  refine gp_pu (st' := .int (6) :: _) dX9_hopping_90 rfl ?_
                  refine gp_icc (t := 101) dX9_hopping_92 (by decide) c2_ne (fun h9 => ?_) (fun h9 => ?_)
                  · refine gp_iload_n dX9_hopping_101 rfl ?_
                    refine gp_pu (st' := .int (6) :: _) dX9_hopping_102 rfl ?_
                    refine gp_icc (t := 114) dX9_hopping_104 (by decide) c2_ne (fun h10 => ?_) (fun h10 => ?_)
                    · refine gp_iload dX9_hopping_114 rfl ?_
                      refine gp_iret dX9_hopping_116 rfl ?_
                      exact pX.mk rfl rfl
                    · exact absurd (by decide) h10
                  · exact absurd (by decide) h9
              · exact absurd (by decide) h7
          · exact absurd (by decide) h5
      · exact absurd (by decide) h3
  · exact absurd (by decide) h1

set_option maxHeartbeats 400000 in
theorem hp_6 (d : Nat) {c x a : Int32} {r : Nat} (hc8 : mm_in c 8 = true) (hkk : J 110 c.toNatClampNeg = 6) (hpa : J 111 c.toNatClampNeg = a) (hr1 : J 108 57 = nI r) (hr : r + 3 ≤ 20) : cP (d + 2) 213 [.ref 108, .int c, .int x] (mm_sh, mm_R, J, L) (pX (some (.int (((x + c) - c) * 2))) L (fun K => K = nlm J r [70, 51, 10])) := by
  refine cP.of_gP (d := d + 1) me_213 ⟨Nat.le_of_ble_eq_true rfl, rfl⟩ ?_
  show gP mm_cs0 _ _ _ _ _ _ [some (.ref _), some (.int _), some (.int _), none, none] [] _ _
  refine gp_aload_n dX9_hopping_0 rfl ?_
  refine gp_gr dX9_hopping_1 mf_9_32 rfl (by first | rfl | assumption | (simp only [*]; done)) (by first | rfl | assumption | (simp only [*]; done)) ?_
  refine gp_iload_n dX9_hopping_4 rfl ?_
  refine gp_ialv dX9_hopping_5 rfl (by first | rfl | assumption | (simp only [*]; done)) (by first | rfl | assumption | (simp only [*]; done)) (by first | exact hkk | exact hpa | exact (nlm_111 _ _ _ _).trans hpa | exact rfl) ?_
  refine gp_istore_n (ls' := [some (.ref _), some (.int _), some (.int _), some (.int _), none]) dX9_hopping_6 rfl (Nat.le_of_ble_eq_true rfl) ?_
  refine gp_iload_n dX9_hopping_7 rfl ?_
  refine gp_pu (st' := .int (6) :: _) dX9_hopping_8 rfl ?_
  refine gp_icc (t := 19) dX9_hopping_10 (by decide) c2_ne (fun h1 => ?_) (fun h1 => ?_)
  · exact absurd h1 (by decide)
  · refine gp_aload_n dX9_hopping_13 rfl ?_
    refine gp_pu (st' := .int (70) :: _) dX9_hopping_14 rfl ?_
    refine gp_callX (kind := 1) (args := [.ref _, .int _]) (rest := _) dX9_hopping_16 (Or.inr (Or.inl ⟨rfl, rfl⟩)) mk_9_349 (by decide) me_212 rfl rfl rfl rfl rfl (mm_rc_of (by first | rfl | assumption | (simp only [*]; done))) (cb_body _ (by omega) hr1) ?_
    intro K1 hK1
    rw [hK1]
    refine gp_iload_n dX9_hopping_19 rfl ?_
    refine gp_pu (st' := .int (4) :: _) dX9_hopping_20 rfl ?_
    refine gp_icc (t := 30) dX9_hopping_21 (by decide) c2_eq (fun h2 => ?_) (fun h2 => ?_)
    · exact absurd h2 (by decide)
    · refine gp_iload_n dX9_hopping_24 rfl ?_
      refine gp_pu (st' := .int (6) :: _) dX9_hopping_25 rfl ?_
      refine gp_icc (t := 36) dX9_hopping_27 (by decide) c2_ne (fun h3 => ?_) (fun h3 => ?_)
      · exact absurd h3 (by decide)
      · refine gp_aload_n dX9_hopping_30 rfl ?_
        refine gp_pu (st' := .int (51) :: _) dX9_hopping_31 rfl ?_
        refine gp_callX (kind := 1) (args := [.ref _, .int _]) (rest := _) dX9_hopping_33 (Or.inr (Or.inl ⟨rfl, rfl⟩)) mk_9_349 (by decide) me_212 rfl rfl rfl rfl rfl (mm_rc_of (by first | rfl | assumption | (simp only [*]; done))) (cb_body (r := r + 1) _ (by omega) (nlm_1 [70] J r hr1)) ?_
        intro K2 hK2
        rw [hK2, show nlm (nlm J r [70]) (r + 1) [51] = nlm J r [70, 51] from nlm_app [70] J r [51]]
        refine gp_iload_n dX9_hopping_36 rfl ?_
        refine gp_pu (st' := .int (1) :: _) dX9_hopping_37 rfl ?_
        refine gp_icc (t := 46) dX9_hopping_38 (by decide) c2_eq (fun h4 => ?_) (fun h4 => ?_)
        · exact absurd h4 (by decide)
        · refine gp_iload_n dX9_hopping_41 rfl ?_
          refine gp_pu (st' := .int (3) :: _) dX9_hopping_42 rfl ?_
          refine gp_icc (t := 52) dX9_hopping_43 (by decide) c2_ne (fun h5 => ?_) (fun h5 => ?_)
          · refine gp_aload_n dX9_hopping_52 rfl ?_
            refine gp_pu (st' := .int (10) :: _) dX9_hopping_53 rfl ?_
            refine gp_callX (kind := 1) (args := [.ref _, .int _]) (rest := _) dX9_hopping_55 (Or.inr (Or.inl ⟨rfl, rfl⟩)) mk_9_349 (by decide) me_212 rfl rfl rfl rfl rfl (mm_rc_of (by first | rfl | assumption | (simp only [*]; done))) (cb_body (r := r + 2) _ (by omega) (nlm_1 [70, 51] J r hr1)) ?_
            intro K3 hK3
            rw [hK3, show nlm (nlm J r [70, 51]) (r + 2) [10] = nlm J r [70, 51, 10] from nlm_app [70, 51] J r [10]]
            refine gp_iload_n dX9_hopping_58 rfl ?_
            refine gp_iload_n dX9_hopping_59 rfl ?_
            refine gp_pu (st' := .int _ :: _) dX9_hopping_60 rfl ?_
            refine gp_istore (ls' := [some (.ref _), some (.int _), some (.int _), some (.int _), some (.int _)]) dX9_hopping_61 rfl (Nat.le_of_ble_eq_true rfl) ?_
            refine gp_iload_n dX9_hopping_63 rfl ?_
            refine gp_pu (st' := .int (1) :: _) dX9_hopping_64 rfl ?_
            refine gp_icc (t := 73) dX9_hopping_65 (by decide) c2_eq (fun h6 => ?_) (fun h6 => ?_)
            · exact absurd h6 (by decide)
            · refine gp_iload_n dX9_hopping_68 rfl ?_
              refine gp_pu (st' := .int (3) :: _) dX9_hopping_69 rfl ?_
              refine gp_icc (t := 84) dX9_hopping_70 (by decide) c2_ne (fun h7 => ?_) (fun h7 => ?_)
              · refine gp_iload_n dX9_hopping_84 rfl ?_
                refine gp_pu (st' := .int (4) :: _) dX9_hopping_85 rfl ?_
                refine gp_icc (t := 95) dX9_hopping_86 (by decide) c2_eq (fun h8 => ?_) (fun h8 => ?_)
                · exact absurd h8 (by decide)
                · refine gp_iload_n dX9_hopping_89 rfl ?_
                  refine gp_pu (st' := .int (6) :: _) dX9_hopping_90 rfl ?_
                  refine gp_icc (t := 101) dX9_hopping_92 (by decide) c2_ne (fun h9 => ?_) (fun h9 => ?_)
                  · exact absurd h9 (by decide)
                  · refine gp_iload dX9_hopping_95 rfl ?_
                    refine gp_iload_n dX9_hopping_97 rfl ?_
                    refine gp_pu (st' := .int _ :: _) dX9_hopping_98 rfl ?_
                    refine gp_istore (ls' := [some (.ref _), some (.int _), some (.int _), some (.int _), some (.int _)]) dX9_hopping_99 rfl (Nat.le_of_ble_eq_true rfl) ?_
                    refine gp_iload_n dX9_hopping_101 rfl ?_
                    refine gp_pu (st' := .int (6) :: _) dX9_hopping_102 rfl ?_
                    refine gp_icc (t := 114) dX9_hopping_104 (by decide) c2_ne (fun h10 => ?_) (fun h10 => ?_)
                    · exact absurd h10 (by decide)
                    · refine gp_iload dX9_hopping_107 rfl ?_
                      refine gp_pu (st' := .int (2) :: _) dX9_hopping_109 rfl ?_
                      refine gp_pu (st' := .int _ :: _) dX9_hopping_110 rfl ?_
                      refine gp_goto (t := 116) dX9_hopping_111 (by decide) ?_
                      refine gp_iret dX9_hopping_116 rfl ?_
                      exact pX.mk rfl rfl
              · exact absurd (by decide) h7
          · exact absurd (by decide) h5

set_option maxHeartbeats 400000 in
theorem fa_0 (d : Nat) {c x a : Int32} {r : Nat} (hc8 : mm_in c 8 = true) (hkk : J 110 c.toNatClampNeg = 0) (hpa : J 111 c.toNatClampNeg = a) (hr1 : J 108 57 = nI r) (hr : r + 2 ≤ 20) : cP (d + 3) 214 [.ref 108, .int c, .int x] (mm_sh, mm_R, J, L) (pX (some (.int ((x + c) * 2))) L (fun K => K = nlm J r [11, 10])) := by
  refine cP.of_gP (d := d + 2) me_214 ⟨Nat.le_of_ble_eq_true rfl, rfl⟩ ?_
  show gP mm_cs0 _ _ _ _ _ _ [some (.ref _), some (.int _), some (.int _), none, none, none, none] [] _ _
  refine gp_aload_n dX9_falling_0 rfl ?_
  refine gp_gr dX9_falling_1 mf_9_32 rfl (by first | rfl | assumption | (simp only [*]; done)) (by first | rfl | assumption | (simp only [*]; done)) ?_
  refine gp_iload_n dX9_falling_4 rfl ?_
  refine gp_ialv dX9_falling_5 rfl (by first | rfl | assumption | (simp only [*]; done)) (by first | rfl | assumption | (simp only [*]; done)) (by first | exact hkk | exact hpa | exact (nlm_111 _ _ _ _).trans hpa | exact rfl) ?_
  refine gp_istore_n (ls' := [some (.ref _), some (.int _), some (.int _), some (.int _), none, none, none]) dX9_falling_6 rfl (Nat.le_of_ble_eq_true rfl) ?_
  refine gp_iload_n dX9_falling_7 rfl ?_
  refine gp_istore (ls' := [some (.ref _), some (.int _), some (.int _), some (.int _), some (.int _), none, none]) dX9_falling_8 rfl (Nat.le_of_ble_eq_true rfl) ?_
  refine gp_iload_n dX9_falling_10 rfl ?_
  refine gp_pu (st' := .int (6) :: _) dX9_falling_11 rfl ?_
  refine gp_icc (t := 32) dX9_falling_13 (by decide) c2_ne (fun h1 => ?_) (fun h1 => ?_)
  · refine gp_iload_n dX9_falling_32 rfl ?_
    refine gp_pu (st' := .int (3) :: _) dX9_falling_33 rfl ?_
    refine gp_icc (t := 48) dX9_falling_34 (by decide) c2_ne (fun h2 => ?_) (fun h2 => ?_)
    · refine gp_iload_n dX9_falling_48 rfl ?_
      refine gp_pu (st' := .int (2) :: _) dX9_falling_49 rfl ?_
      refine gp_icc (t := 58) dX9_falling_50 (by decide) c2_eq (fun h3 => ?_) (fun h3 => ?_)
      · exact absurd h3 (by decide)
      · refine gp_iload_n dX9_falling_53 rfl ?_
        refine gp_pu (st' := .int (5) :: _) dX9_falling_54 rfl ?_
        refine gp_icc (t := 62) dX9_falling_55 (by decide) c2_ne (fun h4 => ?_) (fun h4 => ?_)
        · refine gp_pu (st' := .int (0) :: _) dX9_falling_62 rfl ?_
          refine gp_istore (ls' := [some (.ref _), some (.int _), some (.int _), some (.int _), some (.int _), some (.int _), none]) dX9_falling_63 rfl (Nat.le_of_ble_eq_true rfl) ?_
          refine gp_iload dX9_falling_65 rfl ?_
          refine gp_ifc (t := 76) dX9_falling_67 (by decide) c1_eq (fun h5 => ?_) (fun h5 => ?_)
          · refine gp_aload_n dX9_falling_76 rfl ?_
            refine gp_pu (st' := .int (11) :: _) dX9_falling_77 rfl ?_
            refine gp_callX (kind := 1) (args := [.ref _, .int _]) (rest := _) dX9_falling_79 (Or.inr (Or.inl ⟨rfl, rfl⟩)) mk_9_349 (by decide) me_212 rfl rfl rfl rfl rfl (mm_rc_of (by first | rfl | assumption | (simp only [*]; done))) (cb_body _ (by omega) hr1) ?_
            intro K1 hK1
            rw [hK1]
            refine gp_aload_n dX9_falling_82 rfl ?_
            refine gp_iload_n dX9_falling_83 rfl ?_
            refine gp_iload dX9_falling_84 rfl ?_
            refine gp_callX (kind := 1) (args := [.ref _, .int _, .int _]) (rest := _) dX9_falling_86 (Or.inr (Or.inl ⟨rfl, rfl⟩)) mk_9_352 (by decide) me_213 rfl rfl rfl rfl rfl (mm_rc_of (by first | rfl | assumption | (simp only [*]; done))) (hp_0 (r := r + 1) _ hc8 ((nlm_110 _ _ _ _).trans hkk) ((nlm_111 _ _ _ _).trans hpa) (nlm_1 [11] J r hr1) (by omega)) ?_
            intro K2 hK2
            rw [hK2, show nlm (nlm J r [11]) (r + 1) [10] = nlm J r [11, 10] from nlm_app [11] J r [10]]
            refine gp_pu (st' := .int (2) :: _) dX9_falling_89 rfl ?_
            refine gp_pu (st' := .int _ :: _) dX9_falling_90 rfl ?_
            refine gp_istore (ls' := [some (.ref _), some (.int _), some (.int _), some (.int _), some (.int _), some (.int _), some (.int _)]) dX9_falling_91 rfl (Nat.le_of_ble_eq_true rfl) ?_
            refine gp_iload dX9_falling_93 rfl ?_
            refine gp_ifc (t := 105) dX9_falling_95 (by decide) c1_eq (fun h6 => ?_) (fun h6 => ?_)
            · refine gp_iload dX9_falling_105 rfl ?_
              refine gp_iret dX9_falling_107 rfl ?_
              exact pX.mk rfl rfl
            · exact absurd (by decide) h6
          · exact absurd (by decide) h5
        · exact absurd (by decide) h4
    · exact absurd (by decide) h2
  · exact absurd (by decide) h1

set_option maxHeartbeats 400000 in
theorem fa_1 (d : Nat) {c x a : Int32} {r : Nat} (hc8 : mm_in c 8 = true) (hkk : J 110 c.toNatClampNeg = 1) (hpa : J 111 c.toNatClampNeg = a) (hr1 : J 108 57 = nI r) (hr : r + 3 ≤ 20) : cP (d + 3) 214 [.ref 108, .int c, .int x] (mm_sh, mm_R, J, L) (pX (some (.int (((x + c) + a) * 2))) L (fun K => K = nlm J r [11, 20, 10])) := by
  refine cP.of_gP (d := d + 2) me_214 ⟨Nat.le_of_ble_eq_true rfl, rfl⟩ ?_
  show gP mm_cs0 _ _ _ _ _ _ [some (.ref _), some (.int _), some (.int _), none, none, none, none] [] _ _
  refine gp_aload_n dX9_falling_0 rfl ?_
  refine gp_gr dX9_falling_1 mf_9_32 rfl (by first | rfl | assumption | (simp only [*]; done)) (by first | rfl | assumption | (simp only [*]; done)) ?_
  refine gp_iload_n dX9_falling_4 rfl ?_
  refine gp_ialv dX9_falling_5 rfl (by first | rfl | assumption | (simp only [*]; done)) (by first | rfl | assumption | (simp only [*]; done)) (by first | exact hkk | exact hpa | exact (nlm_111 _ _ _ _).trans hpa | exact rfl) ?_
  refine gp_istore_n (ls' := [some (.ref _), some (.int _), some (.int _), some (.int _), none, none, none]) dX9_falling_6 rfl (Nat.le_of_ble_eq_true rfl) ?_
  refine gp_iload_n dX9_falling_7 rfl ?_
  refine gp_istore (ls' := [some (.ref _), some (.int _), some (.int _), some (.int _), some (.int _), none, none]) dX9_falling_8 rfl (Nat.le_of_ble_eq_true rfl) ?_
  refine gp_iload_n dX9_falling_10 rfl ?_
  refine gp_pu (st' := .int (6) :: _) dX9_falling_11 rfl ?_
  refine gp_icc (t := 32) dX9_falling_13 (by decide) c2_ne (fun h1 => ?_) (fun h1 => ?_)
  · refine gp_iload_n dX9_falling_32 rfl ?_
    refine gp_pu (st' := .int (3) :: _) dX9_falling_33 rfl ?_
    refine gp_icc (t := 48) dX9_falling_34 (by decide) c2_ne (fun h2 => ?_) (fun h2 => ?_)
    · refine gp_iload_n dX9_falling_48 rfl ?_
      refine gp_pu (st' := .int (2) :: _) dX9_falling_49 rfl ?_
      refine gp_icc (t := 58) dX9_falling_50 (by decide) c2_eq (fun h3 => ?_) (fun h3 => ?_)
      · exact absurd h3 (by decide)
      · refine gp_iload_n dX9_falling_53 rfl ?_
        refine gp_pu (st' := .int (5) :: _) dX9_falling_54 rfl ?_
        refine gp_icc (t := 62) dX9_falling_55 (by decide) c2_ne (fun h4 => ?_) (fun h4 => ?_)
        · refine gp_pu (st' := .int (0) :: _) dX9_falling_62 rfl ?_
          refine gp_istore (ls' := [some (.ref _), some (.int _), some (.int _), some (.int _), some (.int _), some (.int _), none]) dX9_falling_63 rfl (Nat.le_of_ble_eq_true rfl) ?_
          refine gp_iload dX9_falling_65 rfl ?_
          refine gp_ifc (t := 76) dX9_falling_67 (by decide) c1_eq (fun h5 => ?_) (fun h5 => ?_)
          · refine gp_aload_n dX9_falling_76 rfl ?_
            refine gp_pu (st' := .int (11) :: _) dX9_falling_77 rfl ?_
            refine gp_callX (kind := 1) (args := [.ref _, .int _]) (rest := _) dX9_falling_79 (Or.inr (Or.inl ⟨rfl, rfl⟩)) mk_9_349 (by decide) me_212 rfl rfl rfl rfl rfl (mm_rc_of (by first | rfl | assumption | (simp only [*]; done))) (cb_body _ (by omega) hr1) ?_
            intro K1 hK1
            rw [hK1]
            refine gp_aload_n dX9_falling_82 rfl ?_
            refine gp_iload_n dX9_falling_83 rfl ?_
            refine gp_iload dX9_falling_84 rfl ?_
            refine gp_callX (kind := 1) (args := [.ref _, .int _, .int _]) (rest := _) dX9_falling_86 (Or.inr (Or.inl ⟨rfl, rfl⟩)) mk_9_352 (by decide) me_213 rfl rfl rfl rfl rfl (mm_rc_of (by first | rfl | assumption | (simp only [*]; done))) (hp_1 (r := r + 1) _ hc8 ((nlm_110 _ _ _ _).trans hkk) ((nlm_111 _ _ _ _).trans hpa) (nlm_1 [11] J r hr1) (by omega)) ?_
            intro K2 hK2
            rw [hK2, show nlm (nlm J r [11]) (r + 1) [20, 10] = nlm J r [11, 20, 10] from nlm_app [11] J r [20, 10]]
            refine gp_pu (st' := .int (2) :: _) dX9_falling_89 rfl ?_
            refine gp_pu (st' := .int _ :: _) dX9_falling_90 rfl ?_
            refine gp_istore (ls' := [some (.ref _), some (.int _), some (.int _), some (.int _), some (.int _), some (.int _), some (.int _)]) dX9_falling_91 rfl (Nat.le_of_ble_eq_true rfl) ?_
            refine gp_iload dX9_falling_93 rfl ?_
            refine gp_ifc (t := 105) dX9_falling_95 (by decide) c1_eq (fun h6 => ?_) (fun h6 => ?_)
            · refine gp_iload dX9_falling_105 rfl ?_
              refine gp_iret dX9_falling_107 rfl ?_
              exact pX.mk rfl rfl
            · exact absurd (by decide) h6
          · exact absurd (by decide) h5
        · exact absurd (by decide) h4
    · exact absurd (by decide) h2
  · exact absurd (by decide) h1

set_option maxHeartbeats 400000 in
theorem fa_2 (d : Nat) {c x a : Int32} {r : Nat} (hc8 : mm_in c 8 = true) (hkk : J 110 c.toNatClampNeg = 2) (hpa : J 111 c.toNatClampNeg = a) (hr1 : J 108 57 = nI r) (hr : r + 3 ≤ 20) : cP (d + 3) 214 [.ref 108, .int c, .int x] (mm_sh, mm_R, J, L) (pX (some (.int (((x + c) * 2) * 3))) L (fun K => K = nlm J r [30, 11, 10])) := by
  refine cP.of_gP (d := d + 2) me_214 ⟨Nat.le_of_ble_eq_true rfl, rfl⟩ ?_
  show gP mm_cs0 _ _ _ _ _ _ [some (.ref _), some (.int _), some (.int _), none, none, none, none] [] _ _
  refine gp_aload_n dX9_falling_0 rfl ?_
  refine gp_gr dX9_falling_1 mf_9_32 rfl (by first | rfl | assumption | (simp only [*]; done)) (by first | rfl | assumption | (simp only [*]; done)) ?_
  refine gp_iload_n dX9_falling_4 rfl ?_
  refine gp_ialv dX9_falling_5 rfl (by first | rfl | assumption | (simp only [*]; done)) (by first | rfl | assumption | (simp only [*]; done)) (by first | exact hkk | exact hpa | exact (nlm_111 _ _ _ _).trans hpa | exact rfl) ?_
  refine gp_istore_n (ls' := [some (.ref _), some (.int _), some (.int _), some (.int _), none, none, none]) dX9_falling_6 rfl (Nat.le_of_ble_eq_true rfl) ?_
  refine gp_iload_n dX9_falling_7 rfl ?_
  refine gp_istore (ls' := [some (.ref _), some (.int _), some (.int _), some (.int _), some (.int _), none, none]) dX9_falling_8 rfl (Nat.le_of_ble_eq_true rfl) ?_
  refine gp_iload_n dX9_falling_10 rfl ?_
  refine gp_pu (st' := .int (6) :: _) dX9_falling_11 rfl ?_
  refine gp_icc (t := 32) dX9_falling_13 (by decide) c2_ne (fun h1 => ?_) (fun h1 => ?_)
  · refine gp_iload_n dX9_falling_32 rfl ?_
    refine gp_pu (st' := .int (3) :: _) dX9_falling_33 rfl ?_
    refine gp_icc (t := 48) dX9_falling_34 (by decide) c2_ne (fun h2 => ?_) (fun h2 => ?_)
    · refine gp_iload_n dX9_falling_48 rfl ?_
      refine gp_pu (st' := .int (2) :: _) dX9_falling_49 rfl ?_
      refine gp_icc (t := 58) dX9_falling_50 (by decide) c2_eq (fun h3 => ?_) (fun h3 => ?_)
      · refine gp_pu (st' := .int (1) :: _) dX9_falling_58 rfl ?_
        refine gp_goto (t := 63) dX9_falling_59 (by decide) ?_
        refine gp_istore (ls' := [some (.ref _), some (.int _), some (.int _), some (.int _), some (.int _), some (.int _), none]) dX9_falling_63 rfl (Nat.le_of_ble_eq_true rfl) ?_
        refine gp_iload dX9_falling_65 rfl ?_
        refine gp_ifc (t := 76) dX9_falling_67 (by decide) c1_eq (fun h4 => ?_) (fun h4 => ?_)
        · exact absurd h4 (by decide)
        · refine gp_aload_n dX9_falling_70 rfl ?_
          refine gp_pu (st' := .int (30) :: _) dX9_falling_71 rfl ?_
          refine gp_callX (kind := 1) (args := [.ref _, .int _]) (rest := _) dX9_falling_73 (Or.inr (Or.inl ⟨rfl, rfl⟩)) mk_9_349 (by decide) me_212 rfl rfl rfl rfl rfl (mm_rc_of (by first | rfl | assumption | (simp only [*]; done))) (cb_body _ (by omega) hr1) ?_
          intro K1 hK1
          rw [hK1]
          refine gp_aload_n dX9_falling_76 rfl ?_
          refine gp_pu (st' := .int (11) :: _) dX9_falling_77 rfl ?_
          refine gp_callX (kind := 1) (args := [.ref _, .int _]) (rest := _) dX9_falling_79 (Or.inr (Or.inl ⟨rfl, rfl⟩)) mk_9_349 (by decide) me_212 rfl rfl rfl rfl rfl (mm_rc_of (by first | rfl | assumption | (simp only [*]; done))) (cb_body (r := r + 1) _ (by omega) (nlm_1 [30] J r hr1)) ?_
          intro K2 hK2
          rw [hK2, show nlm (nlm J r [30]) (r + 1) [11] = nlm J r [30, 11] from nlm_app [30] J r [11]]
          refine gp_aload_n dX9_falling_82 rfl ?_
          refine gp_iload_n dX9_falling_83 rfl ?_
          refine gp_iload dX9_falling_84 rfl ?_
          refine gp_callX (kind := 1) (args := [.ref _, .int _, .int _]) (rest := _) dX9_falling_86 (Or.inr (Or.inl ⟨rfl, rfl⟩)) mk_9_352 (by decide) me_213 rfl rfl rfl rfl rfl (mm_rc_of (by first | rfl | assumption | (simp only [*]; done))) (hp_2 (r := r + 2) _ hc8 ((nlm_110 _ _ _ _).trans hkk) ((nlm_111 _ _ _ _).trans hpa) (nlm_1 [30, 11] J r hr1) (by omega)) ?_
          intro K3 hK3
          rw [hK3, show nlm (nlm J r [30, 11]) (r + 2) [10] = nlm J r [30, 11, 10] from nlm_app [30, 11] J r [10]]
          refine gp_pu (st' := .int (2) :: _) dX9_falling_89 rfl ?_
          refine gp_pu (st' := .int _ :: _) dX9_falling_90 rfl ?_
          refine gp_istore (ls' := [some (.ref _), some (.int _), some (.int _), some (.int _), some (.int _), some (.int _), some (.int _)]) dX9_falling_91 rfl (Nat.le_of_ble_eq_true rfl) ?_
          refine gp_iload dX9_falling_93 rfl ?_
          refine gp_ifc (t := 105) dX9_falling_95 (by decide) c1_eq (fun h5 => ?_) (fun h5 => ?_)
          · exact absurd h5 (by decide)
          · refine gp_iload dX9_falling_98 rfl ?_
            refine gp_pu (st' := .int (3) :: _) dX9_falling_100 rfl ?_
            refine gp_pu (st' := .int _ :: _) dX9_falling_101 rfl ?_
            refine gp_goto (t := 107) dX9_falling_102 (by decide) ?_
            refine gp_iret dX9_falling_107 rfl ?_
            exact pX.mk rfl rfl
      · exact absurd (by decide) h3
    · exact absurd (by decide) h2
  · exact absurd (by decide) h1

set_option maxHeartbeats 400000 in
theorem fa_3 (d : Nat) {c x a : Int32} {r : Nat} (hc8 : mm_in c 8 = true) (hkk : J 110 c.toNatClampNeg = 3) (hpa : J 111 c.toNatClampNeg = a) (hr1 : J 108 57 = nI r) (hr : r + 4 ≤ 20) : cP (d + 3) 214 [.ref 108, .int c, .int x] (mm_sh, mm_R, J, L) (pX (some (.int ((((x + 1) + c) + a) * 2))) L (fun K => K = nlm J r [40, 11, 20, 10])) := by
  refine cP.of_gP (d := d + 2) me_214 ⟨Nat.le_of_ble_eq_true rfl, rfl⟩ ?_
  show gP mm_cs0 _ _ _ _ _ _ [some (.ref _), some (.int _), some (.int _), none, none, none, none] [] _ _
  refine gp_aload_n dX9_falling_0 rfl ?_
  refine gp_gr dX9_falling_1 mf_9_32 rfl (by first | rfl | assumption | (simp only [*]; done)) (by first | rfl | assumption | (simp only [*]; done)) ?_
  refine gp_iload_n dX9_falling_4 rfl ?_
  refine gp_ialv dX9_falling_5 rfl (by first | rfl | assumption | (simp only [*]; done)) (by first | rfl | assumption | (simp only [*]; done)) (by first | exact hkk | exact hpa | exact (nlm_111 _ _ _ _).trans hpa | exact rfl) ?_
  refine gp_istore_n (ls' := [some (.ref _), some (.int _), some (.int _), some (.int _), none, none, none]) dX9_falling_6 rfl (Nat.le_of_ble_eq_true rfl) ?_
  refine gp_iload_n dX9_falling_7 rfl ?_
  refine gp_istore (ls' := [some (.ref _), some (.int _), some (.int _), some (.int _), some (.int _), none, none]) dX9_falling_8 rfl (Nat.le_of_ble_eq_true rfl) ?_
  refine gp_iload_n dX9_falling_10 rfl ?_
  refine gp_pu (st' := .int (6) :: _) dX9_falling_11 rfl ?_
  refine gp_icc (t := 32) dX9_falling_13 (by decide) c2_ne (fun h1 => ?_) (fun h1 => ?_)
  · refine gp_iload_n dX9_falling_32 rfl ?_
    refine gp_pu (st' := .int (3) :: _) dX9_falling_33 rfl ?_
    refine gp_icc (t := 48) dX9_falling_34 (by decide) c2_ne (fun h2 => ?_) (fun h2 => ?_)
    · exact absurd h2 (by decide)
    · refine gp_aload_n dX9_falling_37 rfl ?_
      refine gp_pu (st' := .int (40) :: _) dX9_falling_38 rfl ?_
      refine gp_callX (kind := 1) (args := [.ref _, .int _]) (rest := _) dX9_falling_40 (Or.inr (Or.inl ⟨rfl, rfl⟩)) mk_9_349 (by decide) me_212 rfl rfl rfl rfl rfl (mm_rc_of (by first | rfl | assumption | (simp only [*]; done))) (cb_body _ (by omega) hr1) ?_
      intro K1 hK1
      rw [hK1]
      refine gp_iload_n dX9_falling_43 rfl ?_
      refine gp_pu (st' := .int (1) :: _) dX9_falling_44 rfl ?_
      refine gp_pu (st' := .int _ :: _) dX9_falling_45 rfl ?_
      refine gp_istore (ls' := [some (.ref _), some (.int _), some (.int _), some (.int _), some (.int _), none, none]) dX9_falling_46 rfl (Nat.le_of_ble_eq_true rfl) ?_
      refine gp_iload_n dX9_falling_48 rfl ?_
      refine gp_pu (st' := .int (2) :: _) dX9_falling_49 rfl ?_
      refine gp_icc (t := 58) dX9_falling_50 (by decide) c2_eq (fun h3 => ?_) (fun h3 => ?_)
      · exact absurd h3 (by decide)
      · refine gp_iload_n dX9_falling_53 rfl ?_
        refine gp_pu (st' := .int (5) :: _) dX9_falling_54 rfl ?_
        refine gp_icc (t := 62) dX9_falling_55 (by decide) c2_ne (fun h4 => ?_) (fun h4 => ?_)
        · refine gp_pu (st' := .int (0) :: _) dX9_falling_62 rfl ?_
          refine gp_istore (ls' := [some (.ref _), some (.int _), some (.int _), some (.int _), some (.int _), some (.int _), none]) dX9_falling_63 rfl (Nat.le_of_ble_eq_true rfl) ?_
          refine gp_iload dX9_falling_65 rfl ?_
          refine gp_ifc (t := 76) dX9_falling_67 (by decide) c1_eq (fun h5 => ?_) (fun h5 => ?_)
          · refine gp_aload_n dX9_falling_76 rfl ?_
            refine gp_pu (st' := .int (11) :: _) dX9_falling_77 rfl ?_
            refine gp_callX (kind := 1) (args := [.ref _, .int _]) (rest := _) dX9_falling_79 (Or.inr (Or.inl ⟨rfl, rfl⟩)) mk_9_349 (by decide) me_212 rfl rfl rfl rfl rfl (mm_rc_of (by first | rfl | assumption | (simp only [*]; done))) (cb_body (r := r + 1) _ (by omega) (nlm_1 [40] J r hr1)) ?_
            intro K2 hK2
            rw [hK2, show nlm (nlm J r [40]) (r + 1) [11] = nlm J r [40, 11] from nlm_app [40] J r [11]]
            refine gp_aload_n dX9_falling_82 rfl ?_
            refine gp_iload_n dX9_falling_83 rfl ?_
            refine gp_iload dX9_falling_84 rfl ?_
            refine gp_callX (kind := 1) (args := [.ref _, .int _, .int _]) (rest := _) dX9_falling_86 (Or.inr (Or.inl ⟨rfl, rfl⟩)) mk_9_352 (by decide) me_213 rfl rfl rfl rfl rfl (mm_rc_of (by first | rfl | assumption | (simp only [*]; done))) (hp_3 (r := r + 2) _ hc8 ((nlm_110 _ _ _ _).trans hkk) ((nlm_111 _ _ _ _).trans hpa) (nlm_1 [40, 11] J r hr1) (by omega)) ?_
            intro K3 hK3
            rw [hK3, show nlm (nlm J r [40, 11]) (r + 2) [20, 10] = nlm J r [40, 11, 20, 10] from nlm_app [40, 11] J r [20, 10]]
            refine gp_pu (st' := .int (2) :: _) dX9_falling_89 rfl ?_
            refine gp_pu (st' := .int _ :: _) dX9_falling_90 rfl ?_
            refine gp_istore (ls' := [some (.ref _), some (.int _), some (.int _), some (.int _), some (.int _), some (.int _), some (.int _)]) dX9_falling_91 rfl (Nat.le_of_ble_eq_true rfl) ?_
            refine gp_iload dX9_falling_93 rfl ?_
            refine gp_ifc (t := 105) dX9_falling_95 (by decide) c1_eq (fun h6 => ?_) (fun h6 => ?_)
            · refine gp_iload dX9_falling_105 rfl ?_
              refine gp_iret dX9_falling_107 rfl ?_
              exact pX.mk rfl rfl
            · exact absurd (by decide) h6
          · exact absurd (by decide) h5
        · exact absurd (by decide) h4
  · exact absurd (by decide) h1

set_option maxHeartbeats 400000 in
theorem fa_4 (d : Nat) {c x a : Int32} {r : Nat} (hc8 : mm_in c 8 = true) (hkk : J 110 c.toNatClampNeg = 4) (hpa : J 111 c.toNatClampNeg = a) (hr1 : J 108 57 = nI r) (hr : r + 3 ≤ 20) : cP (d + 3) 214 [.ref 108, .int c, .int x] (mm_sh, mm_R, J, L) (pX (some (.int (((x + c) - c) * 2))) L (fun K => K = nlm J r [11, 51, 10])) := by
  refine cP.of_gP (d := d + 2) me_214 ⟨Nat.le_of_ble_eq_true rfl, rfl⟩ ?_
  show gP mm_cs0 _ _ _ _ _ _ [some (.ref _), some (.int _), some (.int _), none, none, none, none] [] _ _
  refine gp_aload_n dX9_falling_0 rfl ?_
  refine gp_gr dX9_falling_1 mf_9_32 rfl (by first | rfl | assumption | (simp only [*]; done)) (by first | rfl | assumption | (simp only [*]; done)) ?_
  refine gp_iload_n dX9_falling_4 rfl ?_
  refine gp_ialv dX9_falling_5 rfl (by first | rfl | assumption | (simp only [*]; done)) (by first | rfl | assumption | (simp only [*]; done)) (by first | exact hkk | exact hpa | exact (nlm_111 _ _ _ _).trans hpa | exact rfl) ?_
  refine gp_istore_n (ls' := [some (.ref _), some (.int _), some (.int _), some (.int _), none, none, none]) dX9_falling_6 rfl (Nat.le_of_ble_eq_true rfl) ?_
  refine gp_iload_n dX9_falling_7 rfl ?_
  refine gp_istore (ls' := [some (.ref _), some (.int _), some (.int _), some (.int _), some (.int _), none, none]) dX9_falling_8 rfl (Nat.le_of_ble_eq_true rfl) ?_
  refine gp_iload_n dX9_falling_10 rfl ?_
  refine gp_pu (st' := .int (6) :: _) dX9_falling_11 rfl ?_
  refine gp_icc (t := 32) dX9_falling_13 (by decide) c2_ne (fun h1 => ?_) (fun h1 => ?_)
  · refine gp_iload_n dX9_falling_32 rfl ?_
    refine gp_pu (st' := .int (3) :: _) dX9_falling_33 rfl ?_
    refine gp_icc (t := 48) dX9_falling_34 (by decide) c2_ne (fun h2 => ?_) (fun h2 => ?_)
    · refine gp_iload_n dX9_falling_48 rfl ?_
      refine gp_pu (st' := .int (2) :: _) dX9_falling_49 rfl ?_
      refine gp_icc (t := 58) dX9_falling_50 (by decide) c2_eq (fun h3 => ?_) (fun h3 => ?_)
      · exact absurd h3 (by decide)
      · refine gp_iload_n dX9_falling_53 rfl ?_
        refine gp_pu (st' := .int (5) :: _) dX9_falling_54 rfl ?_
        refine gp_icc (t := 62) dX9_falling_55 (by decide) c2_ne (fun h4 => ?_) (fun h4 => ?_)
        · refine gp_pu (st' := .int (0) :: _) dX9_falling_62 rfl ?_
          refine gp_istore (ls' := [some (.ref _), some (.int _), some (.int _), some (.int _), some (.int _), some (.int _), none]) dX9_falling_63 rfl (Nat.le_of_ble_eq_true rfl) ?_
          refine gp_iload dX9_falling_65 rfl ?_
          refine gp_ifc (t := 76) dX9_falling_67 (by decide) c1_eq (fun h5 => ?_) (fun h5 => ?_)
          · refine gp_aload_n dX9_falling_76 rfl ?_
            refine gp_pu (st' := .int (11) :: _) dX9_falling_77 rfl ?_
            refine gp_callX (kind := 1) (args := [.ref _, .int _]) (rest := _) dX9_falling_79 (Or.inr (Or.inl ⟨rfl, rfl⟩)) mk_9_349 (by decide) me_212 rfl rfl rfl rfl rfl (mm_rc_of (by first | rfl | assumption | (simp only [*]; done))) (cb_body _ (by omega) hr1) ?_
            intro K1 hK1
            rw [hK1]
            refine gp_aload_n dX9_falling_82 rfl ?_
            refine gp_iload_n dX9_falling_83 rfl ?_
            refine gp_iload dX9_falling_84 rfl ?_
            refine gp_callX (kind := 1) (args := [.ref _, .int _, .int _]) (rest := _) dX9_falling_86 (Or.inr (Or.inl ⟨rfl, rfl⟩)) mk_9_352 (by decide) me_213 rfl rfl rfl rfl rfl (mm_rc_of (by first | rfl | assumption | (simp only [*]; done))) (hp_4 (r := r + 1) _ hc8 ((nlm_110 _ _ _ _).trans hkk) ((nlm_111 _ _ _ _).trans hpa) (nlm_1 [11] J r hr1) (by omega)) ?_
            intro K2 hK2
            rw [hK2, show nlm (nlm J r [11]) (r + 1) [51, 10] = nlm J r [11, 51, 10] from nlm_app [11] J r [51, 10]]
            refine gp_pu (st' := .int (2) :: _) dX9_falling_89 rfl ?_
            refine gp_pu (st' := .int _ :: _) dX9_falling_90 rfl ?_
            refine gp_istore (ls' := [some (.ref _), some (.int _), some (.int _), some (.int _), some (.int _), some (.int _), some (.int _)]) dX9_falling_91 rfl (Nat.le_of_ble_eq_true rfl) ?_
            refine gp_iload dX9_falling_93 rfl ?_
            refine gp_ifc (t := 105) dX9_falling_95 (by decide) c1_eq (fun h6 => ?_) (fun h6 => ?_)
            · refine gp_iload dX9_falling_105 rfl ?_
              refine gp_iret dX9_falling_107 rfl ?_
              exact pX.mk rfl rfl
            · exact absurd (by decide) h6
          · exact absurd (by decide) h5
        · exact absurd (by decide) h4
    · exact absurd (by decide) h2
  · exact absurd (by decide) h1

set_option maxHeartbeats 400000 in
theorem fa_5 (d : Nat) {c x a : Int32} {r : Nat} (hc8 : mm_in c 8 = true) (hkk : J 110 c.toNatClampNeg = 5) (hpa : J 111 c.toNatClampNeg = a) (hr1 : J 108 57 = nI r) (hr : r + 3 ≤ 20) : cP (d + 3) 214 [.ref 108, .int c, .int x] (mm_sh, mm_R, J, L) (pX (some (.int (((x + c) * 2) * 3))) L (fun K => K = nlm J r [30, 11, 10])) := by
  refine cP.of_gP (d := d + 2) me_214 ⟨Nat.le_of_ble_eq_true rfl, rfl⟩ ?_
  show gP mm_cs0 _ _ _ _ _ _ [some (.ref _), some (.int _), some (.int _), none, none, none, none] [] _ _
  refine gp_aload_n dX9_falling_0 rfl ?_
  refine gp_gr dX9_falling_1 mf_9_32 rfl (by first | rfl | assumption | (simp only [*]; done)) (by first | rfl | assumption | (simp only [*]; done)) ?_
  refine gp_iload_n dX9_falling_4 rfl ?_
  refine gp_ialv dX9_falling_5 rfl (by first | rfl | assumption | (simp only [*]; done)) (by first | rfl | assumption | (simp only [*]; done)) (by first | exact hkk | exact hpa | exact (nlm_111 _ _ _ _).trans hpa | exact rfl) ?_
  refine gp_istore_n (ls' := [some (.ref _), some (.int _), some (.int _), some (.int _), none, none, none]) dX9_falling_6 rfl (Nat.le_of_ble_eq_true rfl) ?_
  refine gp_iload_n dX9_falling_7 rfl ?_
  refine gp_istore (ls' := [some (.ref _), some (.int _), some (.int _), some (.int _), some (.int _), none, none]) dX9_falling_8 rfl (Nat.le_of_ble_eq_true rfl) ?_
  refine gp_iload_n dX9_falling_10 rfl ?_
  refine gp_pu (st' := .int (6) :: _) dX9_falling_11 rfl ?_
  refine gp_icc (t := 32) dX9_falling_13 (by decide) c2_ne (fun h1 => ?_) (fun h1 => ?_)
  · refine gp_iload_n dX9_falling_32 rfl ?_
    refine gp_pu (st' := .int (3) :: _) dX9_falling_33 rfl ?_
    refine gp_icc (t := 48) dX9_falling_34 (by decide) c2_ne (fun h2 => ?_) (fun h2 => ?_)
    · refine gp_iload_n dX9_falling_48 rfl ?_
      refine gp_pu (st' := .int (2) :: _) dX9_falling_49 rfl ?_
      refine gp_icc (t := 58) dX9_falling_50 (by decide) c2_eq (fun h3 => ?_) (fun h3 => ?_)
      · exact absurd h3 (by decide)
      · refine gp_iload_n dX9_falling_53 rfl ?_
        refine gp_pu (st' := .int (5) :: _) dX9_falling_54 rfl ?_
        refine gp_icc (t := 62) dX9_falling_55 (by decide) c2_ne (fun h4 => ?_) (fun h4 => ?_)
        · exact absurd h4 (by decide)
        · refine gp_pu (st' := .int (1) :: _) dX9_falling_58 rfl ?_
          refine gp_goto (t := 63) dX9_falling_59 (by decide) ?_
          refine gp_istore (ls' := [some (.ref _), some (.int _), some (.int _), some (.int _), some (.int _), some (.int _), none]) dX9_falling_63 rfl (Nat.le_of_ble_eq_true rfl) ?_
          refine gp_iload dX9_falling_65 rfl ?_
          refine gp_ifc (t := 76) dX9_falling_67 (by decide) c1_eq (fun h5 => ?_) (fun h5 => ?_)
          · exact absurd h5 (by decide)
          · refine gp_aload_n dX9_falling_70 rfl ?_
            refine gp_pu (st' := .int (30) :: _) dX9_falling_71 rfl ?_
            refine gp_callX (kind := 1) (args := [.ref _, .int _]) (rest := _) dX9_falling_73 (Or.inr (Or.inl ⟨rfl, rfl⟩)) mk_9_349 (by decide) me_212 rfl rfl rfl rfl rfl (mm_rc_of (by first | rfl | assumption | (simp only [*]; done))) (cb_body _ (by omega) hr1) ?_
            intro K1 hK1
            rw [hK1]
            refine gp_aload_n dX9_falling_76 rfl ?_
            refine gp_pu (st' := .int (11) :: _) dX9_falling_77 rfl ?_
            refine gp_callX (kind := 1) (args := [.ref _, .int _]) (rest := _) dX9_falling_79 (Or.inr (Or.inl ⟨rfl, rfl⟩)) mk_9_349 (by decide) me_212 rfl rfl rfl rfl rfl (mm_rc_of (by first | rfl | assumption | (simp only [*]; done))) (cb_body (r := r + 1) _ (by omega) (nlm_1 [30] J r hr1)) ?_
            intro K2 hK2
            rw [hK2, show nlm (nlm J r [30]) (r + 1) [11] = nlm J r [30, 11] from nlm_app [30] J r [11]]
            refine gp_aload_n dX9_falling_82 rfl ?_
            refine gp_iload_n dX9_falling_83 rfl ?_
            refine gp_iload dX9_falling_84 rfl ?_
            refine gp_callX (kind := 1) (args := [.ref _, .int _, .int _]) (rest := _) dX9_falling_86 (Or.inr (Or.inl ⟨rfl, rfl⟩)) mk_9_352 (by decide) me_213 rfl rfl rfl rfl rfl (mm_rc_of (by first | rfl | assumption | (simp only [*]; done))) (hp_5 (r := r + 2) _ hc8 ((nlm_110 _ _ _ _).trans hkk) ((nlm_111 _ _ _ _).trans hpa) (nlm_1 [30, 11] J r hr1) (by omega)) ?_
            intro K3 hK3
            rw [hK3, show nlm (nlm J r [30, 11]) (r + 2) [10] = nlm J r [30, 11, 10] from nlm_app [30, 11] J r [10]]
            refine gp_pu (st' := .int (2) :: _) dX9_falling_89 rfl ?_
            refine gp_pu (st' := .int _ :: _) dX9_falling_90 rfl ?_
            refine gp_istore (ls' := [some (.ref _), some (.int _), some (.int _), some (.int _), some (.int _), some (.int _), some (.int _)]) dX9_falling_91 rfl (Nat.le_of_ble_eq_true rfl) ?_
            refine gp_iload dX9_falling_93 rfl ?_
            refine gp_ifc (t := 105) dX9_falling_95 (by decide) c1_eq (fun h6 => ?_) (fun h6 => ?_)
            · exact absurd h6 (by decide)
            · refine gp_iload dX9_falling_98 rfl ?_
              refine gp_pu (st' := .int (3) :: _) dX9_falling_100 rfl ?_
              refine gp_pu (st' := .int _ :: _) dX9_falling_101 rfl ?_
              refine gp_goto (t := 107) dX9_falling_102 (by decide) ?_
              refine gp_iret dX9_falling_107 rfl ?_
              exact pX.mk rfl rfl
    · exact absurd (by decide) h2
  · exact absurd (by decide) h1

set_option maxHeartbeats 400000 in
theorem fa_6 (d : Nat) {c x a : Int32} {r : Nat} (hc8 : mm_in c 8 = true) (hkk : J 110 c.toNatClampNeg = 6) (hpa : J 111 c.toNatClampNeg = a) (hr1 : J 108 57 = nI r) (hr : r + 5 ≤ 20) : cP (d + 3) 214 [.ref 108, .int c, .int x] (mm_sh, mm_R, J, L) (pX (some (.int (((((x - a) + c) - c) * 2) * 2))) L (fun K => K = nlm J r [71, 11, 70, 51, 10])) := by
  refine cP.of_gP (d := d + 2) me_214 ⟨Nat.le_of_ble_eq_true rfl, rfl⟩ ?_
  show gP mm_cs0 _ _ _ _ _ _ [some (.ref _), some (.int _), some (.int _), none, none, none, none] [] _ _
  refine gp_aload_n dX9_falling_0 rfl ?_
  refine gp_gr dX9_falling_1 mf_9_32 rfl (by first | rfl | assumption | (simp only [*]; done)) (by first | rfl | assumption | (simp only [*]; done)) ?_
  refine gp_iload_n dX9_falling_4 rfl ?_
  refine gp_ialv dX9_falling_5 rfl (by first | rfl | assumption | (simp only [*]; done)) (by first | rfl | assumption | (simp only [*]; done)) (by first | exact hkk | exact hpa | exact (nlm_111 _ _ _ _).trans hpa | exact rfl) ?_
  refine gp_istore_n (ls' := [some (.ref _), some (.int _), some (.int _), some (.int _), none, none, none]) dX9_falling_6 rfl (Nat.le_of_ble_eq_true rfl) ?_
  refine gp_iload_n dX9_falling_7 rfl ?_
  refine gp_istore (ls' := [some (.ref _), some (.int _), some (.int _), some (.int _), some (.int _), none, none]) dX9_falling_8 rfl (Nat.le_of_ble_eq_true rfl) ?_
  refine gp_iload_n dX9_falling_10 rfl ?_
  refine gp_pu (st' := .int (6) :: _) dX9_falling_11 rfl ?_
  refine gp_icc (t := 32) dX9_falling_13 (by decide) c2_ne (fun h1 => ?_) (fun h1 => ?_)
  · exact absurd h1 (by decide)
  · refine gp_aload_n dX9_falling_16 rfl ?_
    refine gp_pu (st' := .int (71) :: _) dX9_falling_17 rfl ?_
    refine gp_callX (kind := 1) (args := [.ref _, .int _]) (rest := _) dX9_falling_19 (Or.inr (Or.inl ⟨rfl, rfl⟩)) mk_9_349 (by decide) me_212 rfl rfl rfl rfl rfl (mm_rc_of (by first | rfl | assumption | (simp only [*]; done))) (cb_body _ (by omega) hr1) ?_
    intro K1 hK1
    rw [hK1]
    refine gp_iload_n dX9_falling_22 rfl ?_
    refine gp_aload_n dX9_falling_23 rfl ?_
    refine gp_gr dX9_falling_24 mf_9_35 rfl (by first | rfl | assumption | (simp only [*]; done)) (by first | rfl | assumption | (simp only [*]; done)) ?_
    refine gp_iload_n dX9_falling_27 rfl ?_
    refine gp_ialv dX9_falling_28 rfl (by first | rfl | assumption | (simp only [*]; done)) (by first | rfl | assumption | (simp only [*]; done)) (by first | exact hkk | exact hpa | exact (nlm_111 _ _ _ _).trans hpa | exact rfl) ?_
    refine gp_pu (st' := .int _ :: _) dX9_falling_29 rfl ?_
    refine gp_istore (ls' := [some (.ref _), some (.int _), some (.int _), some (.int _), some (.int _), none, none]) dX9_falling_30 rfl (Nat.le_of_ble_eq_true rfl) ?_
    refine gp_iload_n dX9_falling_32 rfl ?_
    refine gp_pu (st' := .int (3) :: _) dX9_falling_33 rfl ?_
    refine gp_icc (t := 48) dX9_falling_34 (by decide) c2_ne (fun h2 => ?_) (fun h2 => ?_)
    · refine gp_iload_n dX9_falling_48 rfl ?_
      refine gp_pu (st' := .int (2) :: _) dX9_falling_49 rfl ?_
      refine gp_icc (t := 58) dX9_falling_50 (by decide) c2_eq (fun h3 => ?_) (fun h3 => ?_)
      · exact absurd h3 (by decide)
      · refine gp_iload_n dX9_falling_53 rfl ?_
        refine gp_pu (st' := .int (5) :: _) dX9_falling_54 rfl ?_
        refine gp_icc (t := 62) dX9_falling_55 (by decide) c2_ne (fun h4 => ?_) (fun h4 => ?_)
        · refine gp_pu (st' := .int (0) :: _) dX9_falling_62 rfl ?_
          refine gp_istore (ls' := [some (.ref _), some (.int _), some (.int _), some (.int _), some (.int _), some (.int _), none]) dX9_falling_63 rfl (Nat.le_of_ble_eq_true rfl) ?_
          refine gp_iload dX9_falling_65 rfl ?_
          refine gp_ifc (t := 76) dX9_falling_67 (by decide) c1_eq (fun h5 => ?_) (fun h5 => ?_)
          · refine gp_aload_n dX9_falling_76 rfl ?_
            refine gp_pu (st' := .int (11) :: _) dX9_falling_77 rfl ?_
            refine gp_callX (kind := 1) (args := [.ref _, .int _]) (rest := _) dX9_falling_79 (Or.inr (Or.inl ⟨rfl, rfl⟩)) mk_9_349 (by decide) me_212 rfl rfl rfl rfl rfl (mm_rc_of (by first | rfl | assumption | (simp only [*]; done))) (cb_body (r := r + 1) _ (by omega) (nlm_1 [71] J r hr1)) ?_
            intro K2 hK2
            rw [hK2, show nlm (nlm J r [71]) (r + 1) [11] = nlm J r [71, 11] from nlm_app [71] J r [11]]
            refine gp_aload_n dX9_falling_82 rfl ?_
            refine gp_iload_n dX9_falling_83 rfl ?_
            refine gp_iload dX9_falling_84 rfl ?_
            refine gp_callX (kind := 1) (args := [.ref _, .int _, .int _]) (rest := _) dX9_falling_86 (Or.inr (Or.inl ⟨rfl, rfl⟩)) mk_9_352 (by decide) me_213 rfl rfl rfl rfl rfl (mm_rc_of (by first | rfl | assumption | (simp only [*]; done))) (hp_6 (r := r + 2) _ hc8 ((nlm_110 _ _ _ _).trans hkk) ((nlm_111 _ _ _ _).trans hpa) (nlm_1 [71, 11] J r hr1) (by omega)) ?_
            intro K3 hK3
            rw [hK3, show nlm (nlm J r [71, 11]) (r + 2) [70, 51, 10] = nlm J r [71, 11, 70, 51, 10] from nlm_app [71, 11] J r [70, 51, 10]]
            refine gp_pu (st' := .int (2) :: _) dX9_falling_89 rfl ?_
            refine gp_pu (st' := .int _ :: _) dX9_falling_90 rfl ?_
            refine gp_istore (ls' := [some (.ref _), some (.int _), some (.int _), some (.int _), some (.int _), some (.int _), some (.int _)]) dX9_falling_91 rfl (Nat.le_of_ble_eq_true rfl) ?_
            refine gp_iload dX9_falling_93 rfl ?_
            refine gp_ifc (t := 105) dX9_falling_95 (by decide) c1_eq (fun h6 => ?_) (fun h6 => ?_)
            · refine gp_iload dX9_falling_105 rfl ?_
              refine gp_iret dX9_falling_107 rfl ?_
              exact pX.mk rfl rfl
            · exact absurd (by decide) h6
          · exact absurd (by decide) h5
        · exact absurd (by decide) h4
    · exact absurd (by decide) h2

set_option maxHeartbeats 400000 in
theorem ri_0 (d : Nat) {c x a : Int32} {r : Nat} (hc8 : mm_in c 8 = true) (hkk : J 110 c.toNatClampNeg = 0) (hpa : J 111 c.toNatClampNeg = a) (hr1 : J 108 57 = nI r) (hr : r + 4 ≤ 20) : cP (d + 4) 215 [.ref 108, .int c, .int x] (mm_sh, mm_R, J, L) (pX (some (.int (((x + c) * 2) ^^^ ((x - a) + c)))) L (fun K => K = nlm J r [12, 11, 10, 10])) := by
  refine cP.of_gP (d := d + 3) me_215 ⟨Nat.le_of_ble_eq_true rfl, rfl⟩ ?_
  show gP mm_cs0 _ _ _ _ _ _ [some (.ref _), some (.int _), some (.int _), none, none] [] _ _
  refine gp_aload_n dX9_rising_0 rfl ?_
  refine gp_gr dX9_rising_1 mf_9_32 rfl (by first | rfl | assumption | (simp only [*]; done)) (by first | rfl | assumption | (simp only [*]; done)) ?_
  refine gp_iload_n dX9_rising_4 rfl ?_
  refine gp_ialv dX9_rising_5 rfl (by first | rfl | assumption | (simp only [*]; done)) (by first | rfl | assumption | (simp only [*]; done)) (by first | exact hkk | exact hpa | exact (nlm_111 _ _ _ _).trans hpa | exact rfl) ?_
  refine gp_istore_n (ls' := [some (.ref _), some (.int _), some (.int _), some (.int _), none]) dX9_rising_6 rfl (Nat.le_of_ble_eq_true rfl) ?_
  refine gp_iload_n dX9_rising_7 rfl ?_
  refine gp_pu (st' := .int (4) :: _) dX9_rising_8 rfl ?_
  refine gp_icc (t := 18) dX9_rising_9 (by decide) c2_eq (fun h1 => ?_) (fun h1 => ?_)
  · exact absurd h1 (by decide)
  · refine gp_iload_n dX9_rising_12 rfl ?_
    refine gp_pu (st' := .int (6) :: _) dX9_rising_13 rfl ?_
    refine gp_icc (t := 24) dX9_rising_15 (by decide) c2_ne (fun h2 => ?_) (fun h2 => ?_)
    · refine gp_iload_n dX9_rising_24 rfl ?_
      refine gp_pu (st' := .int (5) :: _) dX9_rising_25 rfl ?_
      refine gp_icc (t := 35) dX9_rising_26 (by decide) c2_ne (fun h3 => ?_) (fun h3 => ?_)
      · refine gp_aload_n dX9_rising_35 rfl ?_
        refine gp_pu (st' := .int (12) :: _) dX9_rising_36 rfl ?_
        refine gp_callX (kind := 1) (args := [.ref _, .int _]) (rest := _) dX9_rising_38 (Or.inr (Or.inl ⟨rfl, rfl⟩)) mk_9_349 (by decide) me_212 rfl rfl rfl rfl rfl (mm_rc_of (by first | rfl | assumption | (simp only [*]; done))) (cb_body _ (by omega) hr1) ?_
        intro K1 hK1
        rw [hK1]
        refine gp_aload_n dX9_rising_41 rfl ?_
        refine gp_iload_n dX9_rising_42 rfl ?_
        refine gp_iload_n dX9_rising_43 rfl ?_
        refine gp_callX (kind := 1) (args := [.ref _, .int _, .int _]) (rest := _) dX9_rising_44 (Or.inr (Or.inl ⟨rfl, rfl⟩)) mk_9_355 (by decide) me_214 rfl rfl rfl rfl rfl (mm_rc_of (by first | rfl | assumption | (simp only [*]; done))) (fa_0 (r := r + 1) _ hc8 ((nlm_110 _ _ _ _).trans hkk) ((nlm_111 _ _ _ _).trans hpa) (nlm_1 [12] J r hr1) (by omega)) ?_
        intro K2 hK2
        rw [hK2, show nlm (nlm J r [12]) (r + 1) [11, 10] = nlm J r [12, 11, 10] from nlm_app [12] J r [11, 10]]
        refine gp_istore (ls' := [some (.ref _), some (.int _), some (.int _), some (.int _), some (.int _)]) dX9_rising_47 rfl (Nat.le_of_ble_eq_true rfl) ?_
        refine gp_iload dX9_rising_49 rfl ?_
        refine gp_aload_n dX9_rising_51 rfl ?_
        refine gp_iload_n dX9_rising_52 rfl ?_
        refine gp_iload_n dX9_rising_53 rfl ?_
        refine gp_aload_n dX9_rising_54 rfl ?_
        refine gp_gr dX9_rising_55 mf_9_35 rfl (by first | rfl | assumption | (simp only [*]; done)) (by first | rfl | assumption | (simp only [*]; done)) ?_
        refine gp_iload_n dX9_rising_58 rfl ?_
        refine gp_ialv dX9_rising_59 rfl (by first | rfl | assumption | (simp only [*]; done)) (by first | rfl | assumption | (simp only [*]; done)) (by first | exact hkk | exact hpa | exact (nlm_111 _ _ _ _).trans hpa | exact rfl) ?_
        refine gp_pu (st' := .int _ :: _) dX9_rising_60 rfl ?_
        refine gp_callX (kind := 1) (args := [.ref _, .int _, .int _]) (rest := _) dX9_rising_61 (Or.inr (Or.inl ⟨rfl, rfl⟩)) mk_9_352 (by decide) me_213 rfl rfl rfl rfl rfl (mm_rc_of (by first | rfl | assumption | (simp only [*]; done))) (hp_0 (r := r + 3) _ hc8 ((nlm_110 _ _ _ _).trans hkk) ((nlm_111 _ _ _ _).trans hpa) (nlm_1 [12, 11, 10] J r hr1) (by omega)) ?_
        intro K3 hK3
        rw [hK3, show nlm (nlm J r [12, 11, 10]) (r + 3) [10] = nlm J r [12, 11, 10, 10] from nlm_app [12, 11, 10] J r [10]]
        refine gp_pu (st' := .int _ :: _) dX9_rising_64 rfl ?_
        refine gp_istore (ls' := [some (.ref _), some (.int _), some (.int _), some (.int _), some (.int _)]) dX9_rising_65 rfl (Nat.le_of_ble_eq_true rfl) ?_
        refine gp_iload_n dX9_rising_67 rfl ?_
        refine gp_pu (st' := .int (4) :: _) dX9_rising_68 rfl ?_
        refine gp_icc (t := 78) dX9_rising_69 (by decide) c2_eq (fun h4 => ?_) (fun h4 => ?_)
        · exact absurd h4 (by decide)
        · refine gp_iload_n dX9_rising_72 rfl ?_
          refine gp_pu (st' := .int (6) :: _) dX9_rising_73 rfl ?_
          refine gp_icc (t := 84) dX9_rising_75 (by decide) c2_ne (fun h5 => ?_) (fun h5 => ?_)
          · refine gp_iload_n dX9_rising_84 rfl ?_
            refine gp_pu (st' := .int (5) :: _) dX9_rising_85 rfl ?_
            refine gp_icc (t := 96) dX9_rising_86 (by decide) c2_ne (fun h6 => ?_) (fun h6 => ?_)
            · refine gp_iload dX9_rising_96 rfl ?_
              refine gp_iret dX9_rising_98 rfl ?_
              exact pX.mk rfl rfl
            · exact absurd (by decide) h6
          · exact absurd (by decide) h5
      · exact absurd (by decide) h3
    · exact absurd (by decide) h2

set_option maxHeartbeats 400000 in
theorem ri_1 (d : Nat) {c x a : Int32} {r : Nat} (hc8 : mm_in c 8 = true) (hkk : J 110 c.toNatClampNeg = 1) (hpa : J 111 c.toNatClampNeg = a) (hr1 : J 108 57 = nI r) (hr : r + 6 ≤ 20) : cP (d + 4) 215 [.ref 108, .int c, .int x] (mm_sh, mm_R, J, L) (pX (some (.int ((((x + c) + a) * 2) ^^^ (((x - a) + c) + a)))) L (fun K => K = nlm J r [12, 11, 20, 10, 20, 10])) := by
  refine cP.of_gP (d := d + 3) me_215 ⟨Nat.le_of_ble_eq_true rfl, rfl⟩ ?_
  show gP mm_cs0 _ _ _ _ _ _ [some (.ref _), some (.int _), some (.int _), none, none] [] _ _
  refine gp_aload_n dX9_rising_0 rfl ?_
  refine gp_gr dX9_rising_1 mf_9_32 rfl (by first | rfl | assumption | (simp only [*]; done)) (by first | rfl | assumption | (simp only [*]; done)) ?_
  refine gp_iload_n dX9_rising_4 rfl ?_
  refine gp_ialv dX9_rising_5 rfl (by first | rfl | assumption | (simp only [*]; done)) (by first | rfl | assumption | (simp only [*]; done)) (by first | exact hkk | exact hpa | exact (nlm_111 _ _ _ _).trans hpa | exact rfl) ?_
  refine gp_istore_n (ls' := [some (.ref _), some (.int _), some (.int _), some (.int _), none]) dX9_rising_6 rfl (Nat.le_of_ble_eq_true rfl) ?_
  refine gp_iload_n dX9_rising_7 rfl ?_
  refine gp_pu (st' := .int (4) :: _) dX9_rising_8 rfl ?_
  refine gp_icc (t := 18) dX9_rising_9 (by decide) c2_eq (fun h1 => ?_) (fun h1 => ?_)
  · exact absurd h1 (by decide)
  · refine gp_iload_n dX9_rising_12 rfl ?_
    refine gp_pu (st' := .int (6) :: _) dX9_rising_13 rfl ?_
    refine gp_icc (t := 24) dX9_rising_15 (by decide) c2_ne (fun h2 => ?_) (fun h2 => ?_)
    · refine gp_iload_n dX9_rising_24 rfl ?_
      refine gp_pu (st' := .int (5) :: _) dX9_rising_25 rfl ?_
      refine gp_icc (t := 35) dX9_rising_26 (by decide) c2_ne (fun h3 => ?_) (fun h3 => ?_)
      · refine gp_aload_n dX9_rising_35 rfl ?_
        refine gp_pu (st' := .int (12) :: _) dX9_rising_36 rfl ?_
        refine gp_callX (kind := 1) (args := [.ref _, .int _]) (rest := _) dX9_rising_38 (Or.inr (Or.inl ⟨rfl, rfl⟩)) mk_9_349 (by decide) me_212 rfl rfl rfl rfl rfl (mm_rc_of (by first | rfl | assumption | (simp only [*]; done))) (cb_body _ (by omega) hr1) ?_
        intro K1 hK1
        rw [hK1]
        refine gp_aload_n dX9_rising_41 rfl ?_
        refine gp_iload_n dX9_rising_42 rfl ?_
        refine gp_iload_n dX9_rising_43 rfl ?_
        refine gp_callX (kind := 1) (args := [.ref _, .int _, .int _]) (rest := _) dX9_rising_44 (Or.inr (Or.inl ⟨rfl, rfl⟩)) mk_9_355 (by decide) me_214 rfl rfl rfl rfl rfl (mm_rc_of (by first | rfl | assumption | (simp only [*]; done))) (fa_1 (r := r + 1) _ hc8 ((nlm_110 _ _ _ _).trans hkk) ((nlm_111 _ _ _ _).trans hpa) (nlm_1 [12] J r hr1) (by omega)) ?_
        intro K2 hK2
        rw [hK2, show nlm (nlm J r [12]) (r + 1) [11, 20, 10] = nlm J r [12, 11, 20, 10] from nlm_app [12] J r [11, 20, 10]]
        refine gp_istore (ls' := [some (.ref _), some (.int _), some (.int _), some (.int _), some (.int _)]) dX9_rising_47 rfl (Nat.le_of_ble_eq_true rfl) ?_
        refine gp_iload dX9_rising_49 rfl ?_
        refine gp_aload_n dX9_rising_51 rfl ?_
        refine gp_iload_n dX9_rising_52 rfl ?_
        refine gp_iload_n dX9_rising_53 rfl ?_
        refine gp_aload_n dX9_rising_54 rfl ?_
        refine gp_gr dX9_rising_55 mf_9_35 rfl (by first | rfl | assumption | (simp only [*]; done)) (by first | rfl | assumption | (simp only [*]; done)) ?_
        refine gp_iload_n dX9_rising_58 rfl ?_
        refine gp_ialv dX9_rising_59 rfl (by first | rfl | assumption | (simp only [*]; done)) (by first | rfl | assumption | (simp only [*]; done)) (by first | exact hkk | exact hpa | exact (nlm_111 _ _ _ _).trans hpa | exact rfl) ?_
        refine gp_pu (st' := .int _ :: _) dX9_rising_60 rfl ?_
        refine gp_callX (kind := 1) (args := [.ref _, .int _, .int _]) (rest := _) dX9_rising_61 (Or.inr (Or.inl ⟨rfl, rfl⟩)) mk_9_352 (by decide) me_213 rfl rfl rfl rfl rfl (mm_rc_of (by first | rfl | assumption | (simp only [*]; done))) (hp_1 (r := r + 4) _ hc8 ((nlm_110 _ _ _ _).trans hkk) ((nlm_111 _ _ _ _).trans hpa) (nlm_1 [12, 11, 20, 10] J r hr1) (by omega)) ?_
        intro K3 hK3
        rw [hK3, show nlm (nlm J r [12, 11, 20, 10]) (r + 4) [20, 10] = nlm J r [12, 11, 20, 10, 20, 10] from nlm_app [12, 11, 20, 10] J r [20, 10]]
        refine gp_pu (st' := .int _ :: _) dX9_rising_64 rfl ?_
        refine gp_istore (ls' := [some (.ref _), some (.int _), some (.int _), some (.int _), some (.int _)]) dX9_rising_65 rfl (Nat.le_of_ble_eq_true rfl) ?_
        refine gp_iload_n dX9_rising_67 rfl ?_
        refine gp_pu (st' := .int (4) :: _) dX9_rising_68 rfl ?_
        refine gp_icc (t := 78) dX9_rising_69 (by decide) c2_eq (fun h4 => ?_) (fun h4 => ?_)
        · exact absurd h4 (by decide)
        · refine gp_iload_n dX9_rising_72 rfl ?_
          refine gp_pu (st' := .int (6) :: _) dX9_rising_73 rfl ?_
          refine gp_icc (t := 84) dX9_rising_75 (by decide) c2_ne (fun h5 => ?_) (fun h5 => ?_)
          · refine gp_iload_n dX9_rising_84 rfl ?_
            refine gp_pu (st' := .int (5) :: _) dX9_rising_85 rfl ?_
            refine gp_icc (t := 96) dX9_rising_86 (by decide) c2_ne (fun h6 => ?_) (fun h6 => ?_)
            · refine gp_iload dX9_rising_96 rfl ?_
              refine gp_iret dX9_rising_98 rfl ?_
              exact pX.mk rfl rfl
            · exact absurd (by decide) h6
          · exact absurd (by decide) h5
      · exact absurd (by decide) h3
    · exact absurd (by decide) h2

set_option maxHeartbeats 400000 in
theorem ri_2 (d : Nat) {c x a : Int32} {r : Nat} (hc8 : mm_in c 8 = true) (hkk : J 110 c.toNatClampNeg = 2) (hpa : J 111 c.toNatClampNeg = a) (hr1 : J 108 57 = nI r) (hr : r + 5 ≤ 20) : cP (d + 4) 215 [.ref 108, .int c, .int x] (mm_sh, mm_R, J, L) (pX (some (.int ((((x + c) * 2) * 3) ^^^ ((x - a) + c)))) L (fun K => K = nlm J r [12, 30, 11, 10, 10])) := by
  refine cP.of_gP (d := d + 3) me_215 ⟨Nat.le_of_ble_eq_true rfl, rfl⟩ ?_
  show gP mm_cs0 _ _ _ _ _ _ [some (.ref _), some (.int _), some (.int _), none, none] [] _ _
  refine gp_aload_n dX9_rising_0 rfl ?_
  refine gp_gr dX9_rising_1 mf_9_32 rfl (by first | rfl | assumption | (simp only [*]; done)) (by first | rfl | assumption | (simp only [*]; done)) ?_
  refine gp_iload_n dX9_rising_4 rfl ?_
  refine gp_ialv dX9_rising_5 rfl (by first | rfl | assumption | (simp only [*]; done)) (by first | rfl | assumption | (simp only [*]; done)) (by first | exact hkk | exact hpa | exact (nlm_111 _ _ _ _).trans hpa | exact rfl) ?_
  refine gp_istore_n (ls' := [some (.ref _), some (.int _), some (.int _), some (.int _), none]) dX9_rising_6 rfl (Nat.le_of_ble_eq_true rfl) ?_
  refine gp_iload_n dX9_rising_7 rfl ?_
  refine gp_pu (st' := .int (4) :: _) dX9_rising_8 rfl ?_
  refine gp_icc (t := 18) dX9_rising_9 (by decide) c2_eq (fun h1 => ?_) (fun h1 => ?_)
  · exact absurd h1 (by decide)
  · refine gp_iload_n dX9_rising_12 rfl ?_
    refine gp_pu (st' := .int (6) :: _) dX9_rising_13 rfl ?_
    refine gp_icc (t := 24) dX9_rising_15 (by decide) c2_ne (fun h2 => ?_) (fun h2 => ?_)
    · refine gp_iload_n dX9_rising_24 rfl ?_
      refine gp_pu (st' := .int (5) :: _) dX9_rising_25 rfl ?_
      refine gp_icc (t := 35) dX9_rising_26 (by decide) c2_ne (fun h3 => ?_) (fun h3 => ?_)
      · refine gp_aload_n dX9_rising_35 rfl ?_
        refine gp_pu (st' := .int (12) :: _) dX9_rising_36 rfl ?_
        refine gp_callX (kind := 1) (args := [.ref _, .int _]) (rest := _) dX9_rising_38 (Or.inr (Or.inl ⟨rfl, rfl⟩)) mk_9_349 (by decide) me_212 rfl rfl rfl rfl rfl (mm_rc_of (by first | rfl | assumption | (simp only [*]; done))) (cb_body _ (by omega) hr1) ?_
        intro K1 hK1
        rw [hK1]
        refine gp_aload_n dX9_rising_41 rfl ?_
        refine gp_iload_n dX9_rising_42 rfl ?_
        refine gp_iload_n dX9_rising_43 rfl ?_
        refine gp_callX (kind := 1) (args := [.ref _, .int _, .int _]) (rest := _) dX9_rising_44 (Or.inr (Or.inl ⟨rfl, rfl⟩)) mk_9_355 (by decide) me_214 rfl rfl rfl rfl rfl (mm_rc_of (by first | rfl | assumption | (simp only [*]; done))) (fa_2 (r := r + 1) _ hc8 ((nlm_110 _ _ _ _).trans hkk) ((nlm_111 _ _ _ _).trans hpa) (nlm_1 [12] J r hr1) (by omega)) ?_
        intro K2 hK2
        rw [hK2, show nlm (nlm J r [12]) (r + 1) [30, 11, 10] = nlm J r [12, 30, 11, 10] from nlm_app [12] J r [30, 11, 10]]
        refine gp_istore (ls' := [some (.ref _), some (.int _), some (.int _), some (.int _), some (.int _)]) dX9_rising_47 rfl (Nat.le_of_ble_eq_true rfl) ?_
        refine gp_iload dX9_rising_49 rfl ?_
        refine gp_aload_n dX9_rising_51 rfl ?_
        refine gp_iload_n dX9_rising_52 rfl ?_
        refine gp_iload_n dX9_rising_53 rfl ?_
        refine gp_aload_n dX9_rising_54 rfl ?_
        refine gp_gr dX9_rising_55 mf_9_35 rfl (by first | rfl | assumption | (simp only [*]; done)) (by first | rfl | assumption | (simp only [*]; done)) ?_
        refine gp_iload_n dX9_rising_58 rfl ?_
        refine gp_ialv dX9_rising_59 rfl (by first | rfl | assumption | (simp only [*]; done)) (by first | rfl | assumption | (simp only [*]; done)) (by first | exact hkk | exact hpa | exact (nlm_111 _ _ _ _).trans hpa | exact rfl) ?_
        refine gp_pu (st' := .int _ :: _) dX9_rising_60 rfl ?_
        refine gp_callX (kind := 1) (args := [.ref _, .int _, .int _]) (rest := _) dX9_rising_61 (Or.inr (Or.inl ⟨rfl, rfl⟩)) mk_9_352 (by decide) me_213 rfl rfl rfl rfl rfl (mm_rc_of (by first | rfl | assumption | (simp only [*]; done))) (hp_2 (r := r + 4) _ hc8 ((nlm_110 _ _ _ _).trans hkk) ((nlm_111 _ _ _ _).trans hpa) (nlm_1 [12, 30, 11, 10] J r hr1) (by omega)) ?_
        intro K3 hK3
        rw [hK3, show nlm (nlm J r [12, 30, 11, 10]) (r + 4) [10] = nlm J r [12, 30, 11, 10, 10] from nlm_app [12, 30, 11, 10] J r [10]]
        refine gp_pu (st' := .int _ :: _) dX9_rising_64 rfl ?_
        refine gp_istore (ls' := [some (.ref _), some (.int _), some (.int _), some (.int _), some (.int _)]) dX9_rising_65 rfl (Nat.le_of_ble_eq_true rfl) ?_
        refine gp_iload_n dX9_rising_67 rfl ?_
        refine gp_pu (st' := .int (4) :: _) dX9_rising_68 rfl ?_
        refine gp_icc (t := 78) dX9_rising_69 (by decide) c2_eq (fun h4 => ?_) (fun h4 => ?_)
        · exact absurd h4 (by decide)
        · refine gp_iload_n dX9_rising_72 rfl ?_
          refine gp_pu (st' := .int (6) :: _) dX9_rising_73 rfl ?_
          refine gp_icc (t := 84) dX9_rising_75 (by decide) c2_ne (fun h5 => ?_) (fun h5 => ?_)
          · refine gp_iload_n dX9_rising_84 rfl ?_
            refine gp_pu (st' := .int (5) :: _) dX9_rising_85 rfl ?_
            refine gp_icc (t := 96) dX9_rising_86 (by decide) c2_ne (fun h6 => ?_) (fun h6 => ?_)
            · refine gp_iload dX9_rising_96 rfl ?_
              refine gp_iret dX9_rising_98 rfl ?_
              exact pX.mk rfl rfl
            · exact absurd (by decide) h6
          · exact absurd (by decide) h5
      · exact absurd (by decide) h3
    · exact absurd (by decide) h2

set_option maxHeartbeats 400000 in
theorem ri_3 (d : Nat) {c x a : Int32} {r : Nat} (hc8 : mm_in c 8 = true) (hkk : J 110 c.toNatClampNeg = 3) (hpa : J 111 c.toNatClampNeg = a) (hr1 : J 108 57 = nI r) (hr : r + 7 ≤ 20) : cP (d + 4) 215 [.ref 108, .int c, .int x] (mm_sh, mm_R, J, L) (pX (some (.int (((((x + 1) + c) + a) * 2) ^^^ (((x - a) + c) + a)))) L (fun K => K = nlm J r [12, 40, 11, 20, 10, 20, 10])) := by
  refine cP.of_gP (d := d + 3) me_215 ⟨Nat.le_of_ble_eq_true rfl, rfl⟩ ?_
  show gP mm_cs0 _ _ _ _ _ _ [some (.ref _), some (.int _), some (.int _), none, none] [] _ _
  refine gp_aload_n dX9_rising_0 rfl ?_
  refine gp_gr dX9_rising_1 mf_9_32 rfl (by first | rfl | assumption | (simp only [*]; done)) (by first | rfl | assumption | (simp only [*]; done)) ?_
  refine gp_iload_n dX9_rising_4 rfl ?_
  refine gp_ialv dX9_rising_5 rfl (by first | rfl | assumption | (simp only [*]; done)) (by first | rfl | assumption | (simp only [*]; done)) (by first | exact hkk | exact hpa | exact (nlm_111 _ _ _ _).trans hpa | exact rfl) ?_
  refine gp_istore_n (ls' := [some (.ref _), some (.int _), some (.int _), some (.int _), none]) dX9_rising_6 rfl (Nat.le_of_ble_eq_true rfl) ?_
  refine gp_iload_n dX9_rising_7 rfl ?_
  refine gp_pu (st' := .int (4) :: _) dX9_rising_8 rfl ?_
  refine gp_icc (t := 18) dX9_rising_9 (by decide) c2_eq (fun h1 => ?_) (fun h1 => ?_)
  · exact absurd h1 (by decide)
  · refine gp_iload_n dX9_rising_12 rfl ?_
    refine gp_pu (st' := .int (6) :: _) dX9_rising_13 rfl ?_
    refine gp_icc (t := 24) dX9_rising_15 (by decide) c2_ne (fun h2 => ?_) (fun h2 => ?_)
    · refine gp_iload_n dX9_rising_24 rfl ?_
      refine gp_pu (st' := .int (5) :: _) dX9_rising_25 rfl ?_
      refine gp_icc (t := 35) dX9_rising_26 (by decide) c2_ne (fun h3 => ?_) (fun h3 => ?_)
      · refine gp_aload_n dX9_rising_35 rfl ?_
        refine gp_pu (st' := .int (12) :: _) dX9_rising_36 rfl ?_
        refine gp_callX (kind := 1) (args := [.ref _, .int _]) (rest := _) dX9_rising_38 (Or.inr (Or.inl ⟨rfl, rfl⟩)) mk_9_349 (by decide) me_212 rfl rfl rfl rfl rfl (mm_rc_of (by first | rfl | assumption | (simp only [*]; done))) (cb_body _ (by omega) hr1) ?_
        intro K1 hK1
        rw [hK1]
        refine gp_aload_n dX9_rising_41 rfl ?_
        refine gp_iload_n dX9_rising_42 rfl ?_
        refine gp_iload_n dX9_rising_43 rfl ?_
        refine gp_callX (kind := 1) (args := [.ref _, .int _, .int _]) (rest := _) dX9_rising_44 (Or.inr (Or.inl ⟨rfl, rfl⟩)) mk_9_355 (by decide) me_214 rfl rfl rfl rfl rfl (mm_rc_of (by first | rfl | assumption | (simp only [*]; done))) (fa_3 (r := r + 1) _ hc8 ((nlm_110 _ _ _ _).trans hkk) ((nlm_111 _ _ _ _).trans hpa) (nlm_1 [12] J r hr1) (by omega)) ?_
        intro K2 hK2
        rw [hK2, show nlm (nlm J r [12]) (r + 1) [40, 11, 20, 10] = nlm J r [12, 40, 11, 20, 10] from nlm_app [12] J r [40, 11, 20, 10]]
        refine gp_istore (ls' := [some (.ref _), some (.int _), some (.int _), some (.int _), some (.int _)]) dX9_rising_47 rfl (Nat.le_of_ble_eq_true rfl) ?_
        refine gp_iload dX9_rising_49 rfl ?_
        refine gp_aload_n dX9_rising_51 rfl ?_
        refine gp_iload_n dX9_rising_52 rfl ?_
        refine gp_iload_n dX9_rising_53 rfl ?_
        refine gp_aload_n dX9_rising_54 rfl ?_
        refine gp_gr dX9_rising_55 mf_9_35 rfl (by first | rfl | assumption | (simp only [*]; done)) (by first | rfl | assumption | (simp only [*]; done)) ?_
        refine gp_iload_n dX9_rising_58 rfl ?_
        refine gp_ialv dX9_rising_59 rfl (by first | rfl | assumption | (simp only [*]; done)) (by first | rfl | assumption | (simp only [*]; done)) (by first | exact hkk | exact hpa | exact (nlm_111 _ _ _ _).trans hpa | exact rfl) ?_
        refine gp_pu (st' := .int _ :: _) dX9_rising_60 rfl ?_
        refine gp_callX (kind := 1) (args := [.ref _, .int _, .int _]) (rest := _) dX9_rising_61 (Or.inr (Or.inl ⟨rfl, rfl⟩)) mk_9_352 (by decide) me_213 rfl rfl rfl rfl rfl (mm_rc_of (by first | rfl | assumption | (simp only [*]; done))) (hp_3 (r := r + 5) _ hc8 ((nlm_110 _ _ _ _).trans hkk) ((nlm_111 _ _ _ _).trans hpa) (nlm_1 [12, 40, 11, 20, 10] J r hr1) (by omega)) ?_
        intro K3 hK3
        rw [hK3, show nlm (nlm J r [12, 40, 11, 20, 10]) (r + 5) [20, 10] = nlm J r [12, 40, 11, 20, 10, 20, 10] from nlm_app [12, 40, 11, 20, 10] J r [20, 10]]
        refine gp_pu (st' := .int _ :: _) dX9_rising_64 rfl ?_
        refine gp_istore (ls' := [some (.ref _), some (.int _), some (.int _), some (.int _), some (.int _)]) dX9_rising_65 rfl (Nat.le_of_ble_eq_true rfl) ?_
        refine gp_iload_n dX9_rising_67 rfl ?_
        refine gp_pu (st' := .int (4) :: _) dX9_rising_68 rfl ?_
        refine gp_icc (t := 78) dX9_rising_69 (by decide) c2_eq (fun h4 => ?_) (fun h4 => ?_)
        · exact absurd h4 (by decide)
        · refine gp_iload_n dX9_rising_72 rfl ?_
          refine gp_pu (st' := .int (6) :: _) dX9_rising_73 rfl ?_
          refine gp_icc (t := 84) dX9_rising_75 (by decide) c2_ne (fun h5 => ?_) (fun h5 => ?_)
          · refine gp_iload_n dX9_rising_84 rfl ?_
            refine gp_pu (st' := .int (5) :: _) dX9_rising_85 rfl ?_
            refine gp_icc (t := 96) dX9_rising_86 (by decide) c2_ne (fun h6 => ?_) (fun h6 => ?_)
            · refine gp_iload dX9_rising_96 rfl ?_
              refine gp_iret dX9_rising_98 rfl ?_
              exact pX.mk rfl rfl
            · exact absurd (by decide) h6
          · exact absurd (by decide) h5
      · exact absurd (by decide) h3
    · exact absurd (by decide) h2

set_option maxHeartbeats 400000 in
theorem ri_4 (d : Nat) {c x a : Int32} {r : Nat} (hc8 : mm_in c 8 = true) (hkk : J 110 c.toNatClampNeg = 4) (hpa : J 111 c.toNatClampNeg = a) (hr1 : J 108 57 = nI r) (hr : r + 7 ≤ 20) : cP (d + 4) 215 [.ref 108, .int c, .int x] (mm_sh, mm_R, J, L) (pX (some (.int (-((((x + c) - c) * 2) ^^^ (((x - a) + c) - c))))) L (fun K => K = nlm J r [50, 12, 11, 51, 10, 51, 10])) := by
  refine cP.of_gP (d := d + 3) me_215 ⟨Nat.le_of_ble_eq_true rfl, rfl⟩ ?_
  show gP mm_cs0 _ _ _ _ _ _ [some (.ref _), some (.int _), some (.int _), none, none] [] _ _
  refine gp_aload_n dX9_rising_0 rfl ?_
  refine gp_gr dX9_rising_1 mf_9_32 rfl (by first | rfl | assumption | (simp only [*]; done)) (by first | rfl | assumption | (simp only [*]; done)) ?_
  refine gp_iload_n dX9_rising_4 rfl ?_
  refine gp_ialv dX9_rising_5 rfl (by first | rfl | assumption | (simp only [*]; done)) (by first | rfl | assumption | (simp only [*]; done)) (by first | exact hkk | exact hpa | exact (nlm_111 _ _ _ _).trans hpa | exact rfl) ?_
  refine gp_istore_n (ls' := [some (.ref _), some (.int _), some (.int _), some (.int _), none]) dX9_rising_6 rfl (Nat.le_of_ble_eq_true rfl) ?_
  refine gp_iload_n dX9_rising_7 rfl ?_
  refine gp_pu (st' := .int (4) :: _) dX9_rising_8 rfl ?_
  refine gp_icc (t := 18) dX9_rising_9 (by decide) c2_eq (fun h1 => ?_) (fun h1 => ?_)
  · refine gp_aload_n dX9_rising_18 rfl ?_
    refine gp_pu (st' := .int (50) :: _) dX9_rising_19 rfl ?_
    refine gp_callX (kind := 1) (args := [.ref _, .int _]) (rest := _) dX9_rising_21 (Or.inr (Or.inl ⟨rfl, rfl⟩)) mk_9_349 (by decide) me_212 rfl rfl rfl rfl rfl (mm_rc_of (by first | rfl | assumption | (simp only [*]; done))) (cb_body _ (by omega) hr1) ?_
    intro K1 hK1
    rw [hK1]
    refine gp_iload_n dX9_rising_24 rfl ?_
    refine gp_pu (st' := .int (5) :: _) dX9_rising_25 rfl ?_
    refine gp_icc (t := 35) dX9_rising_26 (by decide) c2_ne (fun h2 => ?_) (fun h2 => ?_)
    · refine gp_aload_n dX9_rising_35 rfl ?_
      refine gp_pu (st' := .int (12) :: _) dX9_rising_36 rfl ?_
      refine gp_callX (kind := 1) (args := [.ref _, .int _]) (rest := _) dX9_rising_38 (Or.inr (Or.inl ⟨rfl, rfl⟩)) mk_9_349 (by decide) me_212 rfl rfl rfl rfl rfl (mm_rc_of (by first | rfl | assumption | (simp only [*]; done))) (cb_body (r := r + 1) _ (by omega) (nlm_1 [50] J r hr1)) ?_
      intro K2 hK2
      rw [hK2, show nlm (nlm J r [50]) (r + 1) [12] = nlm J r [50, 12] from nlm_app [50] J r [12]]
      refine gp_aload_n dX9_rising_41 rfl ?_
      refine gp_iload_n dX9_rising_42 rfl ?_
      refine gp_iload_n dX9_rising_43 rfl ?_
      refine gp_callX (kind := 1) (args := [.ref _, .int _, .int _]) (rest := _) dX9_rising_44 (Or.inr (Or.inl ⟨rfl, rfl⟩)) mk_9_355 (by decide) me_214 rfl rfl rfl rfl rfl (mm_rc_of (by first | rfl | assumption | (simp only [*]; done))) (fa_4 (r := r + 2) _ hc8 ((nlm_110 _ _ _ _).trans hkk) ((nlm_111 _ _ _ _).trans hpa) (nlm_1 [50, 12] J r hr1) (by omega)) ?_
      intro K3 hK3
      rw [hK3, show nlm (nlm J r [50, 12]) (r + 2) [11, 51, 10] = nlm J r [50, 12, 11, 51, 10] from nlm_app [50, 12] J r [11, 51, 10]]
      refine gp_istore (ls' := [some (.ref _), some (.int _), some (.int _), some (.int _), some (.int _)]) dX9_rising_47 rfl (Nat.le_of_ble_eq_true rfl) ?_
      refine gp_iload dX9_rising_49 rfl ?_
      refine gp_aload_n dX9_rising_51 rfl ?_
      refine gp_iload_n dX9_rising_52 rfl ?_
      refine gp_iload_n dX9_rising_53 rfl ?_
      refine gp_aload_n dX9_rising_54 rfl ?_
      refine gp_gr dX9_rising_55 mf_9_35 rfl (by first | rfl | assumption | (simp only [*]; done)) (by first | rfl | assumption | (simp only [*]; done)) ?_
      refine gp_iload_n dX9_rising_58 rfl ?_
      refine gp_ialv dX9_rising_59 rfl (by first | rfl | assumption | (simp only [*]; done)) (by first | rfl | assumption | (simp only [*]; done)) (by first | exact hkk | exact hpa | exact (nlm_111 _ _ _ _).trans hpa | exact rfl) ?_
      refine gp_pu (st' := .int _ :: _) dX9_rising_60 rfl ?_
      refine gp_callX (kind := 1) (args := [.ref _, .int _, .int _]) (rest := _) dX9_rising_61 (Or.inr (Or.inl ⟨rfl, rfl⟩)) mk_9_352 (by decide) me_213 rfl rfl rfl rfl rfl (mm_rc_of (by first | rfl | assumption | (simp only [*]; done))) (hp_4 (r := r + 5) _ hc8 ((nlm_110 _ _ _ _).trans hkk) ((nlm_111 _ _ _ _).trans hpa) (nlm_1 [50, 12, 11, 51, 10] J r hr1) (by omega)) ?_
      intro K4 hK4
      rw [hK4, show nlm (nlm J r [50, 12, 11, 51, 10]) (r + 5) [51, 10] = nlm J r [50, 12, 11, 51, 10, 51, 10] from nlm_app [50, 12, 11, 51, 10] J r [51, 10]]
      refine gp_pu (st' := .int _ :: _) dX9_rising_64 rfl ?_
      refine gp_istore (ls' := [some (.ref _), some (.int _), some (.int _), some (.int _), some (.int _)]) dX9_rising_65 rfl (Nat.le_of_ble_eq_true rfl) ?_
      refine gp_iload_n dX9_rising_67 rfl ?_
      refine gp_pu (st' := .int (4) :: _) dX9_rising_68 rfl ?_
      refine gp_icc (t := 78) dX9_rising_69 (by decide) c2_eq (fun h3 => ?_) (fun h3 => ?_)
      · refine gp_iload dX9_rising_78 rfl ?_
        refine gp_pu (st' := .int _ :: _) dX9_rising_80 rfl ?_
        refine gp_goto (t := 98) dX9_rising_81 (by decide) ?_
        refine gp_iret dX9_rising_98 rfl ?_
        exact pX.mk rfl rfl
      · exact absurd (by decide) h3
    · exact absurd (by decide) h2
  · exact absurd (by decide) h1

set_option maxHeartbeats 400000 in
theorem ri_5 (d : Nat) {c x a : Int32} {r : Nat} (hc8 : mm_in c 8 = true) (hkk : J 110 c.toNatClampNeg = 5) (hpa : J 111 c.toNatClampNeg = a) (hr1 : J 108 57 = nI r) (hr : r + 6 ≤ 20) : cP (d + 4) 215 [.ref 108, .int c, .int x] (mm_sh, mm_R, J, L) (pX (some (.int (((((x + c) * 2) * 3) ^^^ ((x - a) + c)) ^^^ 5))) L (fun K => K = nlm J r [60, 12, 30, 11, 10, 10])) := by
  refine cP.of_gP (d := d + 3) me_215 ⟨Nat.le_of_ble_eq_true rfl, rfl⟩ ?_
  show gP mm_cs0 _ _ _ _ _ _ [some (.ref _), some (.int _), some (.int _), none, none] [] _ _
  refine gp_aload_n dX9_rising_0 rfl ?_
  refine gp_gr dX9_rising_1 mf_9_32 rfl (by first | rfl | assumption | (simp only [*]; done)) (by first | rfl | assumption | (simp only [*]; done)) ?_
  refine gp_iload_n dX9_rising_4 rfl ?_
  refine gp_ialv dX9_rising_5 rfl (by first | rfl | assumption | (simp only [*]; done)) (by first | rfl | assumption | (simp only [*]; done)) (by first | exact hkk | exact hpa | exact (nlm_111 _ _ _ _).trans hpa | exact rfl) ?_
  refine gp_istore_n (ls' := [some (.ref _), some (.int _), some (.int _), some (.int _), none]) dX9_rising_6 rfl (Nat.le_of_ble_eq_true rfl) ?_
  refine gp_iload_n dX9_rising_7 rfl ?_
  refine gp_pu (st' := .int (4) :: _) dX9_rising_8 rfl ?_
  refine gp_icc (t := 18) dX9_rising_9 (by decide) c2_eq (fun h1 => ?_) (fun h1 => ?_)
  · exact absurd h1 (by decide)
  · refine gp_iload_n dX9_rising_12 rfl ?_
    refine gp_pu (st' := .int (6) :: _) dX9_rising_13 rfl ?_
    refine gp_icc (t := 24) dX9_rising_15 (by decide) c2_ne (fun h2 => ?_) (fun h2 => ?_)
    · refine gp_iload_n dX9_rising_24 rfl ?_
      refine gp_pu (st' := .int (5) :: _) dX9_rising_25 rfl ?_
      refine gp_icc (t := 35) dX9_rising_26 (by decide) c2_ne (fun h3 => ?_) (fun h3 => ?_)
      · exact absurd h3 (by decide)
      · refine gp_aload_n dX9_rising_29 rfl ?_
        refine gp_pu (st' := .int (60) :: _) dX9_rising_30 rfl ?_
        refine gp_callX (kind := 1) (args := [.ref _, .int _]) (rest := _) dX9_rising_32 (Or.inr (Or.inl ⟨rfl, rfl⟩)) mk_9_349 (by decide) me_212 rfl rfl rfl rfl rfl (mm_rc_of (by first | rfl | assumption | (simp only [*]; done))) (cb_body _ (by omega) hr1) ?_
        intro K1 hK1
        rw [hK1]
        refine gp_aload_n dX9_rising_35 rfl ?_
        refine gp_pu (st' := .int (12) :: _) dX9_rising_36 rfl ?_
        refine gp_callX (kind := 1) (args := [.ref _, .int _]) (rest := _) dX9_rising_38 (Or.inr (Or.inl ⟨rfl, rfl⟩)) mk_9_349 (by decide) me_212 rfl rfl rfl rfl rfl (mm_rc_of (by first | rfl | assumption | (simp only [*]; done))) (cb_body (r := r + 1) _ (by omega) (nlm_1 [60] J r hr1)) ?_
        intro K2 hK2
        rw [hK2, show nlm (nlm J r [60]) (r + 1) [12] = nlm J r [60, 12] from nlm_app [60] J r [12]]
        refine gp_aload_n dX9_rising_41 rfl ?_
        refine gp_iload_n dX9_rising_42 rfl ?_
        refine gp_iload_n dX9_rising_43 rfl ?_
        refine gp_callX (kind := 1) (args := [.ref _, .int _, .int _]) (rest := _) dX9_rising_44 (Or.inr (Or.inl ⟨rfl, rfl⟩)) mk_9_355 (by decide) me_214 rfl rfl rfl rfl rfl (mm_rc_of (by first | rfl | assumption | (simp only [*]; done))) (fa_5 (r := r + 2) _ hc8 ((nlm_110 _ _ _ _).trans hkk) ((nlm_111 _ _ _ _).trans hpa) (nlm_1 [60, 12] J r hr1) (by omega)) ?_
        intro K3 hK3
        rw [hK3, show nlm (nlm J r [60, 12]) (r + 2) [30, 11, 10] = nlm J r [60, 12, 30, 11, 10] from nlm_app [60, 12] J r [30, 11, 10]]
        refine gp_istore (ls' := [some (.ref _), some (.int _), some (.int _), some (.int _), some (.int _)]) dX9_rising_47 rfl (Nat.le_of_ble_eq_true rfl) ?_
        refine gp_iload dX9_rising_49 rfl ?_
        refine gp_aload_n dX9_rising_51 rfl ?_
        refine gp_iload_n dX9_rising_52 rfl ?_
        refine gp_iload_n dX9_rising_53 rfl ?_
        refine gp_aload_n dX9_rising_54 rfl ?_
        refine gp_gr dX9_rising_55 mf_9_35 rfl (by first | rfl | assumption | (simp only [*]; done)) (by first | rfl | assumption | (simp only [*]; done)) ?_
        refine gp_iload_n dX9_rising_58 rfl ?_
        refine gp_ialv dX9_rising_59 rfl (by first | rfl | assumption | (simp only [*]; done)) (by first | rfl | assumption | (simp only [*]; done)) (by first | exact hkk | exact hpa | exact (nlm_111 _ _ _ _).trans hpa | exact rfl) ?_
        refine gp_pu (st' := .int _ :: _) dX9_rising_60 rfl ?_
        refine gp_callX (kind := 1) (args := [.ref _, .int _, .int _]) (rest := _) dX9_rising_61 (Or.inr (Or.inl ⟨rfl, rfl⟩)) mk_9_352 (by decide) me_213 rfl rfl rfl rfl rfl (mm_rc_of (by first | rfl | assumption | (simp only [*]; done))) (hp_5 (r := r + 5) _ hc8 ((nlm_110 _ _ _ _).trans hkk) ((nlm_111 _ _ _ _).trans hpa) (nlm_1 [60, 12, 30, 11, 10] J r hr1) (by omega)) ?_
        intro K4 hK4
        rw [hK4, show nlm (nlm J r [60, 12, 30, 11, 10]) (r + 5) [10] = nlm J r [60, 12, 30, 11, 10, 10] from nlm_app [60, 12, 30, 11, 10] J r [10]]
        refine gp_pu (st' := .int _ :: _) dX9_rising_64 rfl ?_
        refine gp_istore (ls' := [some (.ref _), some (.int _), some (.int _), some (.int _), some (.int _)]) dX9_rising_65 rfl (Nat.le_of_ble_eq_true rfl) ?_
        refine gp_iload_n dX9_rising_67 rfl ?_
        refine gp_pu (st' := .int (4) :: _) dX9_rising_68 rfl ?_
        refine gp_icc (t := 78) dX9_rising_69 (by decide) c2_eq (fun h4 => ?_) (fun h4 => ?_)
        · exact absurd h4 (by decide)
        · refine gp_iload_n dX9_rising_72 rfl ?_
          refine gp_pu (st' := .int (6) :: _) dX9_rising_73 rfl ?_
          refine gp_icc (t := 84) dX9_rising_75 (by decide) c2_ne (fun h5 => ?_) (fun h5 => ?_)
          · refine gp_iload_n dX9_rising_84 rfl ?_
            refine gp_pu (st' := .int (5) :: _) dX9_rising_85 rfl ?_
            refine gp_icc (t := 96) dX9_rising_86 (by decide) c2_ne (fun h6 => ?_) (fun h6 => ?_)
            · exact absurd h6 (by decide)
            · refine gp_iload dX9_rising_89 rfl ?_
              refine gp_pu (st' := .int (5) :: _) dX9_rising_91 rfl ?_
              refine gp_pu (st' := .int _ :: _) dX9_rising_92 rfl ?_
              refine gp_goto (t := 98) dX9_rising_93 (by decide) ?_
              refine gp_iret dX9_rising_98 rfl ?_
              exact pX.mk rfl rfl
          · exact absurd (by decide) h5
    · exact absurd (by decide) h2

set_option maxHeartbeats 400000 in
theorem ri_6 (d : Nat) {c x a : Int32} {r : Nat} (hc8 : mm_in c 8 = true) (hkk : J 110 c.toNatClampNeg = 6) (hpa : J 111 c.toNatClampNeg = a) (hr1 : J 108 57 = nI r) (hr : r + 10 ≤ 20) : cP (d + 4) 215 [.ref 108, .int c, .int x] (mm_sh, mm_R, J, L) (pX (some (.int (-((((((x - a) + c) - c) * 2) * 2) ^^^ ((((x - a) + c) - c) * 2))))) L (fun K => K = nlm J r [50, 12, 71, 11, 70, 51, 10, 70, 51, 10])) := by
  refine cP.of_gP (d := d + 3) me_215 ⟨Nat.le_of_ble_eq_true rfl, rfl⟩ ?_
  show gP mm_cs0 _ _ _ _ _ _ [some (.ref _), some (.int _), some (.int _), none, none] [] _ _
  refine gp_aload_n dX9_rising_0 rfl ?_
  refine gp_gr dX9_rising_1 mf_9_32 rfl (by first | rfl | assumption | (simp only [*]; done)) (by first | rfl | assumption | (simp only [*]; done)) ?_
  refine gp_iload_n dX9_rising_4 rfl ?_
  refine gp_ialv dX9_rising_5 rfl (by first | rfl | assumption | (simp only [*]; done)) (by first | rfl | assumption | (simp only [*]; done)) (by first | exact hkk | exact hpa | exact (nlm_111 _ _ _ _).trans hpa | exact rfl) ?_
  refine gp_istore_n (ls' := [some (.ref _), some (.int _), some (.int _), some (.int _), none]) dX9_rising_6 rfl (Nat.le_of_ble_eq_true rfl) ?_
  refine gp_iload_n dX9_rising_7 rfl ?_
  refine gp_pu (st' := .int (4) :: _) dX9_rising_8 rfl ?_
  refine gp_icc (t := 18) dX9_rising_9 (by decide) c2_eq (fun h1 => ?_) (fun h1 => ?_)
  · exact absurd h1 (by decide)
  · refine gp_iload_n dX9_rising_12 rfl ?_
    refine gp_pu (st' := .int (6) :: _) dX9_rising_13 rfl ?_
    refine gp_icc (t := 24) dX9_rising_15 (by decide) c2_ne (fun h2 => ?_) (fun h2 => ?_)
    · exact absurd h2 (by decide)
    · refine gp_aload_n dX9_rising_18 rfl ?_
      refine gp_pu (st' := .int (50) :: _) dX9_rising_19 rfl ?_
      refine gp_callX (kind := 1) (args := [.ref _, .int _]) (rest := _) dX9_rising_21 (Or.inr (Or.inl ⟨rfl, rfl⟩)) mk_9_349 (by decide) me_212 rfl rfl rfl rfl rfl (mm_rc_of (by first | rfl | assumption | (simp only [*]; done))) (cb_body _ (by omega) hr1) ?_
      intro K1 hK1
      rw [hK1]
      refine gp_iload_n dX9_rising_24 rfl ?_
      refine gp_pu (st' := .int (5) :: _) dX9_rising_25 rfl ?_
      refine gp_icc (t := 35) dX9_rising_26 (by decide) c2_ne (fun h3 => ?_) (fun h3 => ?_)
      · refine gp_aload_n dX9_rising_35 rfl ?_
        refine gp_pu (st' := .int (12) :: _) dX9_rising_36 rfl ?_
        refine gp_callX (kind := 1) (args := [.ref _, .int _]) (rest := _) dX9_rising_38 (Or.inr (Or.inl ⟨rfl, rfl⟩)) mk_9_349 (by decide) me_212 rfl rfl rfl rfl rfl (mm_rc_of (by first | rfl | assumption | (simp only [*]; done))) (cb_body (r := r + 1) _ (by omega) (nlm_1 [50] J r hr1)) ?_
        intro K2 hK2
        rw [hK2, show nlm (nlm J r [50]) (r + 1) [12] = nlm J r [50, 12] from nlm_app [50] J r [12]]
        refine gp_aload_n dX9_rising_41 rfl ?_
        refine gp_iload_n dX9_rising_42 rfl ?_
        refine gp_iload_n dX9_rising_43 rfl ?_
        refine gp_callX (kind := 1) (args := [.ref _, .int _, .int _]) (rest := _) dX9_rising_44 (Or.inr (Or.inl ⟨rfl, rfl⟩)) mk_9_355 (by decide) me_214 rfl rfl rfl rfl rfl (mm_rc_of (by first | rfl | assumption | (simp only [*]; done))) (fa_6 (r := r + 2) _ hc8 ((nlm_110 _ _ _ _).trans hkk) ((nlm_111 _ _ _ _).trans hpa) (nlm_1 [50, 12] J r hr1) (by omega)) ?_
        intro K3 hK3
        rw [hK3, show nlm (nlm J r [50, 12]) (r + 2) [71, 11, 70, 51, 10] = nlm J r [50, 12, 71, 11, 70, 51, 10] from nlm_app [50, 12] J r [71, 11, 70, 51, 10]]
        refine gp_istore (ls' := [some (.ref _), some (.int _), some (.int _), some (.int _), some (.int _)]) dX9_rising_47 rfl (Nat.le_of_ble_eq_true rfl) ?_
        refine gp_iload dX9_rising_49 rfl ?_
        refine gp_aload_n dX9_rising_51 rfl ?_
        refine gp_iload_n dX9_rising_52 rfl ?_
        refine gp_iload_n dX9_rising_53 rfl ?_
        refine gp_aload_n dX9_rising_54 rfl ?_
        refine gp_gr dX9_rising_55 mf_9_35 rfl (by first | rfl | assumption | (simp only [*]; done)) (by first | rfl | assumption | (simp only [*]; done)) ?_
        refine gp_iload_n dX9_rising_58 rfl ?_
        refine gp_ialv dX9_rising_59 rfl (by first | rfl | assumption | (simp only [*]; done)) (by first | rfl | assumption | (simp only [*]; done)) (by first | exact hkk | exact hpa | exact (nlm_111 _ _ _ _).trans hpa | exact rfl) ?_
        refine gp_pu (st' := .int _ :: _) dX9_rising_60 rfl ?_
        refine gp_callX (kind := 1) (args := [.ref _, .int _, .int _]) (rest := _) dX9_rising_61 (Or.inr (Or.inl ⟨rfl, rfl⟩)) mk_9_352 (by decide) me_213 rfl rfl rfl rfl rfl (mm_rc_of (by first | rfl | assumption | (simp only [*]; done))) (hp_6 (r := r + 7) _ hc8 ((nlm_110 _ _ _ _).trans hkk) ((nlm_111 _ _ _ _).trans hpa) (nlm_1 [50, 12, 71, 11, 70, 51, 10] J r hr1) (by omega)) ?_
        intro K4 hK4
        rw [hK4, show nlm (nlm J r [50, 12, 71, 11, 70, 51, 10]) (r + 7) [70, 51, 10] = nlm J r [50, 12, 71, 11, 70, 51, 10, 70, 51, 10] from nlm_app [50, 12, 71, 11, 70, 51, 10] J r [70, 51, 10]]
        refine gp_pu (st' := .int _ :: _) dX9_rising_64 rfl ?_
        refine gp_istore (ls' := [some (.ref _), some (.int _), some (.int _), some (.int _), some (.int _)]) dX9_rising_65 rfl (Nat.le_of_ble_eq_true rfl) ?_
        refine gp_iload_n dX9_rising_67 rfl ?_
        refine gp_pu (st' := .int (4) :: _) dX9_rising_68 rfl ?_
        refine gp_icc (t := 78) dX9_rising_69 (by decide) c2_eq (fun h4 => ?_) (fun h4 => ?_)
        · exact absurd h4 (by decide)
        · refine gp_iload_n dX9_rising_72 rfl ?_
          refine gp_pu (st' := .int (6) :: _) dX9_rising_73 rfl ?_
          refine gp_icc (t := 84) dX9_rising_75 (by decide) c2_ne (fun h5 => ?_) (fun h5 => ?_)
          · exact absurd h5 (by decide)
          · refine gp_iload dX9_rising_78 rfl ?_
            refine gp_pu (st' := .int _ :: _) dX9_rising_80 rfl ?_
            refine gp_goto (t := 98) dX9_rising_81 (by decide) ?_
            refine gp_iret dX9_rising_98 rfl ?_
            exact pX.mk rfl rfl
      · exact absurd (by decide) h3
end P83
