/-! PUBLIC METHODS: act, the class -/
section P82
variable {I C J : pI} {L : pL} {N S : Nat}

theorem gp_iacv {cs : mm_Cs} {d own : Nat} {ini : Bool} {rt : Option FieldType} {b : ByteArray} {pc : Nat} {ls : mm_Ls} {st : List Value} {M : mm_M} {Q : Option Value → mm_M → Prop} {k n : Nat} {x y : Int32} {f : Nat → Int32} (hd : decode b pc = .ok (.iaload, 1)) (hc : cs k = some (n, f)) (hin : mm_in x n = true) (hv : f x.toNatClampNeg = y) (kk : gP cs d own ini rt b (pc + 1) ls (.int y :: st) M Q) : gP cs d own ini rt b pc ls (.int x :: .ref k :: st) M Q := by subst hv; exact gp_iac hd hc hin kk
/-- the class's bodies noted from place r on -/
def nls : pI → Nat → List Int32 → pI
  | J, _, [] => J
  | J, r, b :: B => nls (mm_u (mm_u J 72 r b) 71 1 (nI (r + 1))) (r + 1) B
theorem nls_app (A : List Int32) : ∀ (J : pI) (r : Nat) (B : List Int32), nls (nls J r A) (r + A.length) B = nls J r (A ++ B) := by
  induction A with
  | nil => intro J r B; rfl
  | cons b A ih =>
    intro J r B
    show nls (nls _ (r + 1) A) (r + (A.length + 1)) B = nls _ (r + 1) (A ++ B)
    rw [show r + (A.length + 1) = r + 1 + A.length by omega]
    exact ih _ _ _
theorem nls_1 (B : List Int32) : ∀ (J : pI) (r : Nat), J 71 1 = nI r → nls J r B 71 1 = nI (r + B.length) := by
  induction B with
  | nil => intro J r h; exact h
  | cons b B ih =>
    intro J r h
    show nls _ (r + 1) B 71 1 = nI (r + (B.length + 1))
    rw [ih _ _ (mm_u_s _ _ _ _), show r + 1 + B.length = r + (B.length + 1) by omega]
theorem nls_o (B : List Int32) : ∀ (J : pI) (r : Nat) {k j : Nat}, (k = 71 → j ≠ 1) → k ≠ 72 → nls J r B k j = J k j := by
  induction B with
  | nil => intro J r k j _ _; rfl
  | cons b B ih =>
    intro J r k j h h2
    show nls _ (r + 1) B k j = J k j
    rw [ih _ _ h h2, mm_u_i, if_neg (fun z => h z.1 z.2), mm_u_i, if_neg (fun z => h2 z.1)]
/-- the class's moves: kind k0, number m, a; r bodies noted -/
def mvs (J : pI) (k0 m a : Int32) (r : Nat) : Prop := J 71 1 = nI r ∧ J 71 2 = k0 ∧ J 71 3 = m ∧ J 71 4 = a
theorem mvs.nls {J : pI} {k0 m a : Int32} {r : Nat} (h : mvs J k0 m a r) (B : List Int32) : mvs (nls J r B) k0 m a (r + B.length) := ⟨nls_1 B J r h.1, (nls_o B J r (fun _ => by decide) (by decide)).trans h.2.1, (nls_o B J r (fun _ => by decide) (by decide)).trans h.2.2.1, (nls_o B J r (fun _ => by decide) (by decide)).trans h.2.2.2⟩
theorem d_inc {x : Int32} {n k : Int} (h : 0 ≤ x.toInt ∧ x.toInt + k ≤ 12) (hk : n + 1 ≤ k) (hn : 0 ≤ n) : 0 ≤ (x + 1).toInt ∧ (x + 1).toInt + n ≤ 12 := by
  obtain ⟨a, b⟩ := h
  rw [ti_add (by rw [ti_1]; omega) (by rw [ti_1]; omega), ti_1]
  omega
theorem d_12 {x : Int32} {n : Int} (h : 0 ≤ x.toInt ∧ x.toInt + n ≤ 12) (hn : 0 ≤ n) : ¬ 12 < x := by
  rw [ti_lt, show (12 : Int32).toInt = 12 from by decide]
  omega

set_option maxHeartbeats 400000 in
theorem ct_note (d : Nat) {r : Nat} (hr : r < 20) (hr1 : J 71 1 = nI r) {b : Int32} : cP (d + 1) 18 [.ref 71, .int b] (mm_sh, mm_R, J, L) (pX none L (fun K => K = nls J r [b])) := by
  have zqi : mm_in (nI r) 20 = true := (mm_in_i (by omega)).mpr ⟨nI_pos' (by omega), nI_lt (b := 20) hr (by omega)⟩
  refine cP.of_gP (d := d + 0) me_18 ⟨Nat.le_of_ble_eq_true rfl, rfl⟩ ?_
  show gP mm_cs0 _ _ _ _ _ _ [some (.ref _), some (.int _)] [] _ _
  refine gp_aload_n dX3_note_0 rfl ?_
  refine gp_giv dX3_note_1 mf_3_35 (by decide) (by first | rfl | assumption | (simp only [*]; done)) (by first | exact hr1 | exact rfl) ?_
  refine gp_pu (st' := .int (20) :: _) dX3_note_4 rfl ?_
  refine gp_icc (t := 19) dX3_note_6 (by decide) c2_ge (fun h1 => ?_) (fun h1 => ?_)
  · exact absurd h1 (nI_ge (b := 20) hr (by omega))
  · have h1' := Int32.not_le.mp h1
    refine gp_aload_n dX3_note_9 rfl ?_
    refine gp_gr dX3_note_10 mf_3_11 rfl (by first | rfl | assumption | (simp only [*]; done)) (by first | rfl | assumption | (simp only [*]; done)) ?_
    refine gp_aload_n dX3_note_13 rfl ?_
    refine gp_giv dX3_note_14 mf_3_35 (by decide) (by first | rfl | assumption | (simp only [*]; done)) (by first | exact hr1 | exact rfl) ?_
    refine gp_iload_n dX3_note_17 rfl ?_
    refine gp_ias dX3_note_18 (by first | rfl | assumption | (simp only [*]; done)) (by first | rfl | assumption | (simp only [*]; done)) ?_
    refine gp_aload_n dX3_note_19 rfl ?_
    refine gp_pu dX3_note_20 rfl ?_
    refine gp_giv dX3_note_21 mf_3_35 (by decide) (by first | rfl | assumption | (simp only [*]; done)) (by first | exact hr1 | exact rfl) ?_
    refine gp_pu (st' := .int (1) :: _) dX3_note_24 rfl ?_
    refine gp_pu (st' := .int _ :: _) dX3_note_25 rfl ?_
    refine gp_pi dX3_note_26 mf_3_35 rfl rfl (by first | rfl | assumption | (simp only [*]; done)) ?_
    refine gp_vret dX3_note_29 rfl ?_
    refine pX.mk rfl ?_
    show mm_u (mm_u J 72 (nI r).toNatClampNeg b) 71 1 (nI r + 1) = mm_u (mm_u J 72 r b) 71 1 (nI (r + 1))
    rw [nI_1, nI_clamp (by omega)]

set_option maxHeartbeats 400000 in
theorem hd_0_0 (d : Nat) : cP (d + 2) 19 [.int 0, .int 0] (mm_sh, mm_R, J, L) (pX (some (.int 0)) L (fun K => K = J)) := by
  refine cP.of_gP (d := d + 1) me_19 ⟨Nat.le_of_ble_eq_true rfl, rfl⟩ ?_
  show gP mm_cs0 _ _ _ _ _ _ [some (.int _), some (.int _), none, none] [] _ _
  refine gp_iload_n dX3_holderOf_0 rfl ?_
  refine gp_istore_n (ls' := [some (.int _), some (.int _), some (.int _), none]) dX3_holderOf_1 rfl (Nat.le_of_ble_eq_true rfl) ?_
  refine gp_pu (st' := .int (0) :: _) dX3_holderOf_2 rfl ?_
  refine gp_istore_n (ls' := [some (.int _), some (.int _), some (.int _), some (.int _)]) dX3_holderOf_3 rfl (Nat.le_of_ble_eq_true rfl) ?_
  refine gp_iload_n dX3_holderOf_4 rfl ?_
  refine gp_pu (st' := .int (7) :: _) dX3_holderOf_5 rfl ?_
  refine gp_icc (t := 42) dX3_holderOf_7 (by decide) c2_ge (fun h1 => ?_) (fun h1 => ?_)
  · exact absurd h1 (by decide)
  · have h1' := Int32.not_le.mp h1
    refine gp_iload_n dX3_holderOf_10 rfl ?_
    refine gp_call (kind := 0) (args := [.int _]) (rest := _) dX3_holderOf_11 (Or.inl ⟨rfl, rfl⟩) mk_3_38 (by decide) me_102 rfl rfl rfl rfl rfl rfl (ok_X8_isKind _ _ _ _) rfl ?_
    refine gp_ifc (t := 42) dX3_holderOf_14 (by decide) c1_eq (fun h2 => ?_) (fun h2 => ?_)
    · exact absurd h2 (by decide)
    · refine gp_gs dX3_holderOf_17 rfl ?_
      refine gp_iload_n dX3_holderOf_20 rfl ?_
      refine gp_pu (st' := .int (7) :: _) dX3_holderOf_21 rfl ?_
      refine gp_pu (st' := .int _ :: _) dX3_holderOf_23 rfl ?_
      refine gp_iload_n dX3_holderOf_24 rfl ?_
      refine gp_pu (st' := .int _ :: _) dX3_holderOf_25 rfl ?_
      refine gp_iacv (y := (10)) dX3_holderOf_26 rfl (by decide) (by decide) ?_
      refine gp_ifc (t := 42) dX3_holderOf_27 (by decide) c1_ne (fun h3 => ?_) (fun h3 => ?_)
      · refine gp_iload_n dX3_holderOf_42 rfl ?_
        refine gp_iret dX3_holderOf_43 rfl ?_
        exact pX.mk rfl rfl
      · exact absurd (by decide) h3

set_option maxHeartbeats 400000 in
theorem hd_0_1 (d : Nat) : cP (d + 2) 19 [.int 0, .int 1] (mm_sh, mm_R, J, L) (pX (some (.int 1)) L (fun K => K = J)) := by
  refine cP.of_gP (d := d + 1) me_19 ⟨Nat.le_of_ble_eq_true rfl, rfl⟩ ?_
  show gP mm_cs0 _ _ _ _ _ _ [some (.int _), some (.int _), none, none] [] _ _
  refine gp_iload_n dX3_holderOf_0 rfl ?_
  refine gp_istore_n (ls' := [some (.int _), some (.int _), some (.int _), none]) dX3_holderOf_1 rfl (Nat.le_of_ble_eq_true rfl) ?_
  refine gp_pu (st' := .int (0) :: _) dX3_holderOf_2 rfl ?_
  refine gp_istore_n (ls' := [some (.int _), some (.int _), some (.int _), some (.int _)]) dX3_holderOf_3 rfl (Nat.le_of_ble_eq_true rfl) ?_
  refine gp_iload_n dX3_holderOf_4 rfl ?_
  refine gp_pu (st' := .int (7) :: _) dX3_holderOf_5 rfl ?_
  refine gp_icc (t := 42) dX3_holderOf_7 (by decide) c2_ge (fun h1 => ?_) (fun h1 => ?_)
  · exact absurd h1 (by decide)
  · have h1' := Int32.not_le.mp h1
    refine gp_iload_n dX3_holderOf_10 rfl ?_
    refine gp_call (kind := 0) (args := [.int _]) (rest := _) dX3_holderOf_11 (Or.inl ⟨rfl, rfl⟩) mk_3_38 (by decide) me_102 rfl rfl rfl rfl rfl rfl (ok_X8_isKind _ _ _ _) rfl ?_
    refine gp_ifc (t := 42) dX3_holderOf_14 (by decide) c1_eq (fun h2 => ?_) (fun h2 => ?_)
    · exact absurd h2 (by decide)
    · refine gp_gs dX3_holderOf_17 rfl ?_
      refine gp_iload_n dX3_holderOf_20 rfl ?_
      refine gp_pu (st' := .int (7) :: _) dX3_holderOf_21 rfl ?_
      refine gp_pu (st' := .int _ :: _) dX3_holderOf_23 rfl ?_
      refine gp_iload_n dX3_holderOf_24 rfl ?_
      refine gp_pu (st' := .int _ :: _) dX3_holderOf_25 rfl ?_
      refine gp_iacv (y := (20)) dX3_holderOf_26 rfl (by decide) (by decide) ?_
      refine gp_ifc (t := 42) dX3_holderOf_27 (by decide) c1_ne (fun h3 => ?_) (fun h3 => ?_)
      · refine gp_iload_n dX3_holderOf_42 rfl ?_
        refine gp_iret dX3_holderOf_43 rfl ?_
        exact pX.mk rfl rfl
      · exact absurd (by decide) h3

set_option maxHeartbeats 400000 in
theorem hd_0_2 (d : Nat) : cP (d + 2) 19 [.int 0, .int 2] (mm_sh, mm_R, J, L) (pX (some (.int 0)) L (fun K => K = J)) := by
  refine cP.of_gP (d := d + 1) me_19 ⟨Nat.le_of_ble_eq_true rfl, rfl⟩ ?_
  show gP mm_cs0 _ _ _ _ _ _ [some (.int _), some (.int _), none, none] [] _ _
  refine gp_iload_n dX3_holderOf_0 rfl ?_
  refine gp_istore_n (ls' := [some (.int _), some (.int _), some (.int _), none]) dX3_holderOf_1 rfl (Nat.le_of_ble_eq_true rfl) ?_
  refine gp_pu (st' := .int (0) :: _) dX3_holderOf_2 rfl ?_
  refine gp_istore_n (ls' := [some (.int _), some (.int _), some (.int _), some (.int _)]) dX3_holderOf_3 rfl (Nat.le_of_ble_eq_true rfl) ?_
  refine gp_iload_n dX3_holderOf_4 rfl ?_
  refine gp_pu (st' := .int (7) :: _) dX3_holderOf_5 rfl ?_
  refine gp_icc (t := 42) dX3_holderOf_7 (by decide) c2_ge (fun h1 => ?_) (fun h1 => ?_)
  · exact absurd h1 (by decide)
  · have h1' := Int32.not_le.mp h1
    refine gp_iload_n dX3_holderOf_10 rfl ?_
    refine gp_call (kind := 0) (args := [.int _]) (rest := _) dX3_holderOf_11 (Or.inl ⟨rfl, rfl⟩) mk_3_38 (by decide) me_102 rfl rfl rfl rfl rfl rfl (ok_X8_isKind _ _ _ _) rfl ?_
    refine gp_ifc (t := 42) dX3_holderOf_14 (by decide) c1_eq (fun h2 => ?_) (fun h2 => ?_)
    · exact absurd h2 (by decide)
    · refine gp_gs dX3_holderOf_17 rfl ?_
      refine gp_iload_n dX3_holderOf_20 rfl ?_
      refine gp_pu (st' := .int (7) :: _) dX3_holderOf_21 rfl ?_
      refine gp_pu (st' := .int _ :: _) dX3_holderOf_23 rfl ?_
      refine gp_iload_n dX3_holderOf_24 rfl ?_
      refine gp_pu (st' := .int _ :: _) dX3_holderOf_25 rfl ?_
      refine gp_iacv (y := (0)) dX3_holderOf_26 rfl (by decide) (by decide) ?_
      refine gp_ifc (t := 42) dX3_holderOf_27 (by decide) c1_ne (fun h3 => ?_) (fun h3 => ?_)
      · exact absurd h3 (by decide)
      · refine gp_gs dX3_holderOf_30 rfl ?_
        refine gp_iload_n dX3_holderOf_33 rfl ?_
        refine gp_iacv (y := (0)) dX3_holderOf_34 rfl (by decide) (by decide) ?_
        refine gp_istore_n (ls' := [some (.int _), some (.int _), some (.int _), some (.int _)]) dX3_holderOf_35 rfl (Nat.le_of_ble_eq_true rfl) ?_
        refine gp_iinc (v := (1)) (ls' := [some (.int _), some (.int _), some (.int _), some (.int _)]) dX3_holderOf_36 rfl (by decide) rfl ?_
        refine gp_goto (t := 4) dX3_holderOf_39 (by decide) ?_
        refine gp_iload_n dX3_holderOf_4 rfl ?_
        refine gp_pu (st' := .int (7) :: _) dX3_holderOf_5 rfl ?_
        refine gp_icc (t := 42) dX3_holderOf_7 (by decide) c2_ge (fun h4 => ?_) (fun h4 => ?_)
        · exact absurd h4 (by decide)
        · have h4' := Int32.not_le.mp h4
          refine gp_iload_n dX3_holderOf_10 rfl ?_
          refine gp_call (kind := 0) (args := [.int _]) (rest := _) dX3_holderOf_11 (Or.inl ⟨rfl, rfl⟩) mk_3_38 (by decide) me_102 rfl rfl rfl rfl rfl rfl (ok_X8_isKind _ _ _ _) rfl ?_
          refine gp_ifc (t := 42) dX3_holderOf_14 (by decide) c1_eq (fun h5 => ?_) (fun h5 => ?_)
          · exact absurd h5 (by decide)
          · refine gp_gs dX3_holderOf_17 rfl ?_
            refine gp_iload_n dX3_holderOf_20 rfl ?_
            refine gp_pu (st' := .int (7) :: _) dX3_holderOf_21 rfl ?_
            refine gp_pu (st' := .int _ :: _) dX3_holderOf_23 rfl ?_
            refine gp_iload_n dX3_holderOf_24 rfl ?_
            refine gp_pu (st' := .int _ :: _) dX3_holderOf_25 rfl ?_
            refine gp_iacv (y := (10)) dX3_holderOf_26 rfl (by decide) (by decide) ?_
            refine gp_ifc (t := 42) dX3_holderOf_27 (by decide) c1_ne (fun h6 => ?_) (fun h6 => ?_)
            · refine gp_iload_n dX3_holderOf_42 rfl ?_
              refine gp_iret dX3_holderOf_43 rfl ?_
              exact pX.mk rfl rfl
            · exact absurd (by decide) h6

set_option maxHeartbeats 400000 in
theorem hd_0_3 (d : Nat) : cP (d + 2) 19 [.int 0, .int 3] (mm_sh, mm_R, J, L) (pX (some (.int 1)) L (fun K => K = J)) := by
  refine cP.of_gP (d := d + 1) me_19 ⟨Nat.le_of_ble_eq_true rfl, rfl⟩ ?_
  show gP mm_cs0 _ _ _ _ _ _ [some (.int _), some (.int _), none, none] [] _ _
  refine gp_iload_n dX3_holderOf_0 rfl ?_
  refine gp_istore_n (ls' := [some (.int _), some (.int _), some (.int _), none]) dX3_holderOf_1 rfl (Nat.le_of_ble_eq_true rfl) ?_
  refine gp_pu (st' := .int (0) :: _) dX3_holderOf_2 rfl ?_
  refine gp_istore_n (ls' := [some (.int _), some (.int _), some (.int _), some (.int _)]) dX3_holderOf_3 rfl (Nat.le_of_ble_eq_true rfl) ?_
  refine gp_iload_n dX3_holderOf_4 rfl ?_
  refine gp_pu (st' := .int (7) :: _) dX3_holderOf_5 rfl ?_
  refine gp_icc (t := 42) dX3_holderOf_7 (by decide) c2_ge (fun h1 => ?_) (fun h1 => ?_)
  · exact absurd h1 (by decide)
  · have h1' := Int32.not_le.mp h1
    refine gp_iload_n dX3_holderOf_10 rfl ?_
    refine gp_call (kind := 0) (args := [.int _]) (rest := _) dX3_holderOf_11 (Or.inl ⟨rfl, rfl⟩) mk_3_38 (by decide) me_102 rfl rfl rfl rfl rfl rfl (ok_X8_isKind _ _ _ _) rfl ?_
    refine gp_ifc (t := 42) dX3_holderOf_14 (by decide) c1_eq (fun h2 => ?_) (fun h2 => ?_)
    · exact absurd h2 (by decide)
    · refine gp_gs dX3_holderOf_17 rfl ?_
      refine gp_iload_n dX3_holderOf_20 rfl ?_
      refine gp_pu (st' := .int (7) :: _) dX3_holderOf_21 rfl ?_
      refine gp_pu (st' := .int _ :: _) dX3_holderOf_23 rfl ?_
      refine gp_iload_n dX3_holderOf_24 rfl ?_
      refine gp_pu (st' := .int _ :: _) dX3_holderOf_25 rfl ?_
      refine gp_iacv (y := (0)) dX3_holderOf_26 rfl (by decide) (by decide) ?_
      refine gp_ifc (t := 42) dX3_holderOf_27 (by decide) c1_ne (fun h3 => ?_) (fun h3 => ?_)
      · exact absurd h3 (by decide)
      · refine gp_gs dX3_holderOf_30 rfl ?_
        refine gp_iload_n dX3_holderOf_33 rfl ?_
        refine gp_iacv (y := (1)) dX3_holderOf_34 rfl (by decide) (by decide) ?_
        refine gp_istore_n (ls' := [some (.int _), some (.int _), some (.int _), some (.int _)]) dX3_holderOf_35 rfl (Nat.le_of_ble_eq_true rfl) ?_
        refine gp_iinc (v := (1)) (ls' := [some (.int _), some (.int _), some (.int _), some (.int _)]) dX3_holderOf_36 rfl (by decide) rfl ?_
        refine gp_goto (t := 4) dX3_holderOf_39 (by decide) ?_
        refine gp_iload_n dX3_holderOf_4 rfl ?_
        refine gp_pu (st' := .int (7) :: _) dX3_holderOf_5 rfl ?_
        refine gp_icc (t := 42) dX3_holderOf_7 (by decide) c2_ge (fun h4 => ?_) (fun h4 => ?_)
        · exact absurd h4 (by decide)
        · have h4' := Int32.not_le.mp h4
          refine gp_iload_n dX3_holderOf_10 rfl ?_
          refine gp_call (kind := 0) (args := [.int _]) (rest := _) dX3_holderOf_11 (Or.inl ⟨rfl, rfl⟩) mk_3_38 (by decide) me_102 rfl rfl rfl rfl rfl rfl (ok_X8_isKind _ _ _ _) rfl ?_
          refine gp_ifc (t := 42) dX3_holderOf_14 (by decide) c1_eq (fun h5 => ?_) (fun h5 => ?_)
          · exact absurd h5 (by decide)
          · refine gp_gs dX3_holderOf_17 rfl ?_
            refine gp_iload_n dX3_holderOf_20 rfl ?_
            refine gp_pu (st' := .int (7) :: _) dX3_holderOf_21 rfl ?_
            refine gp_pu (st' := .int _ :: _) dX3_holderOf_23 rfl ?_
            refine gp_iload_n dX3_holderOf_24 rfl ?_
            refine gp_pu (st' := .int _ :: _) dX3_holderOf_25 rfl ?_
            refine gp_iacv (y := (20)) dX3_holderOf_26 rfl (by decide) (by decide) ?_
            refine gp_ifc (t := 42) dX3_holderOf_27 (by decide) c1_ne (fun h6 => ?_) (fun h6 => ?_)
            · refine gp_iload_n dX3_holderOf_42 rfl ?_
              refine gp_iret dX3_holderOf_43 rfl ?_
              exact pX.mk rfl rfl
            · exact absurd (by decide) h6

set_option maxHeartbeats 400000 in
theorem hd_0_4 (d : Nat) : cP (d + 2) 19 [.int 0, .int 4] (mm_sh, mm_R, J, L) (pX (some (.int 4)) L (fun K => K = J)) := by
  refine cP.of_gP (d := d + 1) me_19 ⟨Nat.le_of_ble_eq_true rfl, rfl⟩ ?_
  show gP mm_cs0 _ _ _ _ _ _ [some (.int _), some (.int _), none, none] [] _ _
  refine gp_iload_n dX3_holderOf_0 rfl ?_
  refine gp_istore_n (ls' := [some (.int _), some (.int _), some (.int _), none]) dX3_holderOf_1 rfl (Nat.le_of_ble_eq_true rfl) ?_
  refine gp_pu (st' := .int (0) :: _) dX3_holderOf_2 rfl ?_
  refine gp_istore_n (ls' := [some (.int _), some (.int _), some (.int _), some (.int _)]) dX3_holderOf_3 rfl (Nat.le_of_ble_eq_true rfl) ?_
  refine gp_iload_n dX3_holderOf_4 rfl ?_
  refine gp_pu (st' := .int (7) :: _) dX3_holderOf_5 rfl ?_
  refine gp_icc (t := 42) dX3_holderOf_7 (by decide) c2_ge (fun h1 => ?_) (fun h1 => ?_)
  · exact absurd h1 (by decide)
  · have h1' := Int32.not_le.mp h1
    refine gp_iload_n dX3_holderOf_10 rfl ?_
    refine gp_call (kind := 0) (args := [.int _]) (rest := _) dX3_holderOf_11 (Or.inl ⟨rfl, rfl⟩) mk_3_38 (by decide) me_102 rfl rfl rfl rfl rfl rfl (ok_X8_isKind _ _ _ _) rfl ?_
    refine gp_ifc (t := 42) dX3_holderOf_14 (by decide) c1_eq (fun h2 => ?_) (fun h2 => ?_)
    · exact absurd h2 (by decide)
    · refine gp_gs dX3_holderOf_17 rfl ?_
      refine gp_iload_n dX3_holderOf_20 rfl ?_
      refine gp_pu (st' := .int (7) :: _) dX3_holderOf_21 rfl ?_
      refine gp_pu (st' := .int _ :: _) dX3_holderOf_23 rfl ?_
      refine gp_iload_n dX3_holderOf_24 rfl ?_
      refine gp_pu (st' := .int _ :: _) dX3_holderOf_25 rfl ?_
      refine gp_iacv (y := (51)) dX3_holderOf_26 rfl (by decide) (by decide) ?_
      refine gp_ifc (t := 42) dX3_holderOf_27 (by decide) c1_ne (fun h3 => ?_) (fun h3 => ?_)
      · refine gp_iload_n dX3_holderOf_42 rfl ?_
        refine gp_iret dX3_holderOf_43 rfl ?_
        exact pX.mk rfl rfl
      · exact absurd (by decide) h3

set_option maxHeartbeats 400000 in
theorem hd_0_5 (d : Nat) : cP (d + 2) 19 [.int 0, .int 5] (mm_sh, mm_R, J, L) (pX (some (.int 0)) L (fun K => K = J)) := by
  refine cP.of_gP (d := d + 1) me_19 ⟨Nat.le_of_ble_eq_true rfl, rfl⟩ ?_
  show gP mm_cs0 _ _ _ _ _ _ [some (.int _), some (.int _), none, none] [] _ _
  refine gp_iload_n dX3_holderOf_0 rfl ?_
  refine gp_istore_n (ls' := [some (.int _), some (.int _), some (.int _), none]) dX3_holderOf_1 rfl (Nat.le_of_ble_eq_true rfl) ?_
  refine gp_pu (st' := .int (0) :: _) dX3_holderOf_2 rfl ?_
  refine gp_istore_n (ls' := [some (.int _), some (.int _), some (.int _), some (.int _)]) dX3_holderOf_3 rfl (Nat.le_of_ble_eq_true rfl) ?_
  refine gp_iload_n dX3_holderOf_4 rfl ?_
  refine gp_pu (st' := .int (7) :: _) dX3_holderOf_5 rfl ?_
  refine gp_icc (t := 42) dX3_holderOf_7 (by decide) c2_ge (fun h1 => ?_) (fun h1 => ?_)
  · exact absurd h1 (by decide)
  · have h1' := Int32.not_le.mp h1
    refine gp_iload_n dX3_holderOf_10 rfl ?_
    refine gp_call (kind := 0) (args := [.int _]) (rest := _) dX3_holderOf_11 (Or.inl ⟨rfl, rfl⟩) mk_3_38 (by decide) me_102 rfl rfl rfl rfl rfl rfl (ok_X8_isKind _ _ _ _) rfl ?_
    refine gp_ifc (t := 42) dX3_holderOf_14 (by decide) c1_eq (fun h2 => ?_) (fun h2 => ?_)
    · exact absurd h2 (by decide)
    · refine gp_gs dX3_holderOf_17 rfl ?_
      refine gp_iload_n dX3_holderOf_20 rfl ?_
      refine gp_pu (st' := .int (7) :: _) dX3_holderOf_21 rfl ?_
      refine gp_pu (st' := .int _ :: _) dX3_holderOf_23 rfl ?_
      refine gp_iload_n dX3_holderOf_24 rfl ?_
      refine gp_pu (st' := .int _ :: _) dX3_holderOf_25 rfl ?_
      refine gp_iacv (y := (0)) dX3_holderOf_26 rfl (by decide) (by decide) ?_
      refine gp_ifc (t := 42) dX3_holderOf_27 (by decide) c1_ne (fun h3 => ?_) (fun h3 => ?_)
      · exact absurd h3 (by decide)
      · refine gp_gs dX3_holderOf_30 rfl ?_
        refine gp_iload_n dX3_holderOf_33 rfl ?_
        refine gp_iacv (y := (2)) dX3_holderOf_34 rfl (by decide) (by decide) ?_
        refine gp_istore_n (ls' := [some (.int _), some (.int _), some (.int _), some (.int _)]) dX3_holderOf_35 rfl (Nat.le_of_ble_eq_true rfl) ?_
        refine gp_iinc (v := (1)) (ls' := [some (.int _), some (.int _), some (.int _), some (.int _)]) dX3_holderOf_36 rfl (by decide) rfl ?_
        refine gp_goto (t := 4) dX3_holderOf_39 (by decide) ?_
        refine gp_iload_n dX3_holderOf_4 rfl ?_
        refine gp_pu (st' := .int (7) :: _) dX3_holderOf_5 rfl ?_
        refine gp_icc (t := 42) dX3_holderOf_7 (by decide) c2_ge (fun h4 => ?_) (fun h4 => ?_)
        · exact absurd h4 (by decide)
        · have h4' := Int32.not_le.mp h4
          refine gp_iload_n dX3_holderOf_10 rfl ?_
          refine gp_call (kind := 0) (args := [.int _]) (rest := _) dX3_holderOf_11 (Or.inl ⟨rfl, rfl⟩) mk_3_38 (by decide) me_102 rfl rfl rfl rfl rfl rfl (ok_X8_isKind _ _ _ _) rfl ?_
          refine gp_ifc (t := 42) dX3_holderOf_14 (by decide) c1_eq (fun h5 => ?_) (fun h5 => ?_)
          · exact absurd h5 (by decide)
          · refine gp_gs dX3_holderOf_17 rfl ?_
            refine gp_iload_n dX3_holderOf_20 rfl ?_
            refine gp_pu (st' := .int (7) :: _) dX3_holderOf_21 rfl ?_
            refine gp_pu (st' := .int _ :: _) dX3_holderOf_23 rfl ?_
            refine gp_iload_n dX3_holderOf_24 rfl ?_
            refine gp_pu (st' := .int _ :: _) dX3_holderOf_25 rfl ?_
            refine gp_iacv (y := (0)) dX3_holderOf_26 rfl (by decide) (by decide) ?_
            refine gp_ifc (t := 42) dX3_holderOf_27 (by decide) c1_ne (fun h6 => ?_) (fun h6 => ?_)
            · exact absurd h6 (by decide)
            · refine gp_gs dX3_holderOf_30 rfl ?_
              refine gp_iload_n dX3_holderOf_33 rfl ?_
              refine gp_iacv (y := (0)) dX3_holderOf_34 rfl (by decide) (by decide) ?_
              refine gp_istore_n (ls' := [some (.int _), some (.int _), some (.int _), some (.int _)]) dX3_holderOf_35 rfl (Nat.le_of_ble_eq_true rfl) ?_
              refine gp_iinc (v := (1)) (ls' := [some (.int _), some (.int _), some (.int _), some (.int _)]) dX3_holderOf_36 rfl (by decide) rfl ?_
              refine gp_goto (t := 4) dX3_holderOf_39 (by decide) ?_
              refine gp_iload_n dX3_holderOf_4 rfl ?_
              refine gp_pu (st' := .int (7) :: _) dX3_holderOf_5 rfl ?_
              refine gp_icc (t := 42) dX3_holderOf_7 (by decide) c2_ge (fun h7 => ?_) (fun h7 => ?_)
              · exact absurd h7 (by decide)
              · have h7' := Int32.not_le.mp h7
                refine gp_iload_n dX3_holderOf_10 rfl ?_
                refine gp_call (kind := 0) (args := [.int _]) (rest := _) dX3_holderOf_11 (Or.inl ⟨rfl, rfl⟩) mk_3_38 (by decide) me_102 rfl rfl rfl rfl rfl rfl (ok_X8_isKind _ _ _ _) rfl ?_
                refine gp_ifc (t := 42) dX3_holderOf_14 (by decide) c1_eq (fun h8 => ?_) (fun h8 => ?_)
                · exact absurd h8 (by decide)
                · refine gp_gs dX3_holderOf_17 rfl ?_
                  refine gp_iload_n dX3_holderOf_20 rfl ?_
                  refine gp_pu (st' := .int (7) :: _) dX3_holderOf_21 rfl ?_
                  refine gp_pu (st' := .int _ :: _) dX3_holderOf_23 rfl ?_
                  refine gp_iload_n dX3_holderOf_24 rfl ?_
                  refine gp_pu (st' := .int _ :: _) dX3_holderOf_25 rfl ?_
                  refine gp_iacv (y := (10)) dX3_holderOf_26 rfl (by decide) (by decide) ?_
                  refine gp_ifc (t := 42) dX3_holderOf_27 (by decide) c1_ne (fun h9 => ?_) (fun h9 => ?_)
                  · refine gp_iload_n dX3_holderOf_42 rfl ?_
                    refine gp_iret dX3_holderOf_43 rfl ?_
                    exact pX.mk rfl rfl
                  · exact absurd (by decide) h9

set_option maxHeartbeats 400000 in
theorem hd_0_6 (d : Nat) : cP (d + 2) 19 [.int 0, .int 6] (mm_sh, mm_R, J, L) (pX (some (.int 6)) L (fun K => K = J)) := by
  refine cP.of_gP (d := d + 1) me_19 ⟨Nat.le_of_ble_eq_true rfl, rfl⟩ ?_
  show gP mm_cs0 _ _ _ _ _ _ [some (.int _), some (.int _), none, none] [] _ _
  refine gp_iload_n dX3_holderOf_0 rfl ?_
  refine gp_istore_n (ls' := [some (.int _), some (.int _), some (.int _), none]) dX3_holderOf_1 rfl (Nat.le_of_ble_eq_true rfl) ?_
  refine gp_pu (st' := .int (0) :: _) dX3_holderOf_2 rfl ?_
  refine gp_istore_n (ls' := [some (.int _), some (.int _), some (.int _), some (.int _)]) dX3_holderOf_3 rfl (Nat.le_of_ble_eq_true rfl) ?_
  refine gp_iload_n dX3_holderOf_4 rfl ?_
  refine gp_pu (st' := .int (7) :: _) dX3_holderOf_5 rfl ?_
  refine gp_icc (t := 42) dX3_holderOf_7 (by decide) c2_ge (fun h1 => ?_) (fun h1 => ?_)
  · exact absurd h1 (by decide)
  · have h1' := Int32.not_le.mp h1
    refine gp_iload_n dX3_holderOf_10 rfl ?_
    refine gp_call (kind := 0) (args := [.int _]) (rest := _) dX3_holderOf_11 (Or.inl ⟨rfl, rfl⟩) mk_3_38 (by decide) me_102 rfl rfl rfl rfl rfl rfl (ok_X8_isKind _ _ _ _) rfl ?_
    refine gp_ifc (t := 42) dX3_holderOf_14 (by decide) c1_eq (fun h2 => ?_) (fun h2 => ?_)
    · exact absurd h2 (by decide)
    · refine gp_gs dX3_holderOf_17 rfl ?_
      refine gp_iload_n dX3_holderOf_20 rfl ?_
      refine gp_pu (st' := .int (7) :: _) dX3_holderOf_21 rfl ?_
      refine gp_pu (st' := .int _ :: _) dX3_holderOf_23 rfl ?_
      refine gp_iload_n dX3_holderOf_24 rfl ?_
      refine gp_pu (st' := .int _ :: _) dX3_holderOf_25 rfl ?_
      refine gp_iacv (y := (70)) dX3_holderOf_26 rfl (by decide) (by decide) ?_
      refine gp_ifc (t := 42) dX3_holderOf_27 (by decide) c1_ne (fun h3 => ?_) (fun h3 => ?_)
      · refine gp_iload_n dX3_holderOf_42 rfl ?_
        refine gp_iret dX3_holderOf_43 rfl ?_
        exact pX.mk rfl rfl
      · exact absurd (by decide) h3

set_option maxHeartbeats 400000 in
theorem hd_1_0 (d : Nat) : cP (d + 2) 19 [.int 1, .int 0] (mm_sh, mm_R, J, L) (pX (some (.int 0)) L (fun K => K = J)) := by
  refine cP.of_gP (d := d + 1) me_19 ⟨Nat.le_of_ble_eq_true rfl, rfl⟩ ?_
  show gP mm_cs0 _ _ _ _ _ _ [some (.int _), some (.int _), none, none] [] _ _
  refine gp_iload_n dX3_holderOf_0 rfl ?_
  refine gp_istore_n (ls' := [some (.int _), some (.int _), some (.int _), none]) dX3_holderOf_1 rfl (Nat.le_of_ble_eq_true rfl) ?_
  refine gp_pu (st' := .int (0) :: _) dX3_holderOf_2 rfl ?_
  refine gp_istore_n (ls' := [some (.int _), some (.int _), some (.int _), some (.int _)]) dX3_holderOf_3 rfl (Nat.le_of_ble_eq_true rfl) ?_
  refine gp_iload_n dX3_holderOf_4 rfl ?_
  refine gp_pu (st' := .int (7) :: _) dX3_holderOf_5 rfl ?_
  refine gp_icc (t := 42) dX3_holderOf_7 (by decide) c2_ge (fun h1 => ?_) (fun h1 => ?_)
  · exact absurd h1 (by decide)
  · have h1' := Int32.not_le.mp h1
    refine gp_iload_n dX3_holderOf_10 rfl ?_
    refine gp_call (kind := 0) (args := [.int _]) (rest := _) dX3_holderOf_11 (Or.inl ⟨rfl, rfl⟩) mk_3_38 (by decide) me_102 rfl rfl rfl rfl rfl rfl (ok_X8_isKind _ _ _ _) rfl ?_
    refine gp_ifc (t := 42) dX3_holderOf_14 (by decide) c1_eq (fun h2 => ?_) (fun h2 => ?_)
    · exact absurd h2 (by decide)
    · refine gp_gs dX3_holderOf_17 rfl ?_
      refine gp_iload_n dX3_holderOf_20 rfl ?_
      refine gp_pu (st' := .int (7) :: _) dX3_holderOf_21 rfl ?_
      refine gp_pu (st' := .int _ :: _) dX3_holderOf_23 rfl ?_
      refine gp_iload_n dX3_holderOf_24 rfl ?_
      refine gp_pu (st' := .int _ :: _) dX3_holderOf_25 rfl ?_
      refine gp_iacv (y := (11)) dX3_holderOf_26 rfl (by decide) (by decide) ?_
      refine gp_ifc (t := 42) dX3_holderOf_27 (by decide) c1_ne (fun h3 => ?_) (fun h3 => ?_)
      · refine gp_iload_n dX3_holderOf_42 rfl ?_
        refine gp_iret dX3_holderOf_43 rfl ?_
        exact pX.mk rfl rfl
      · exact absurd (by decide) h3

set_option maxHeartbeats 400000 in
theorem hd_1_1 (d : Nat) : cP (d + 2) 19 [.int 1, .int 1] (mm_sh, mm_R, J, L) (pX (some (.int 0)) L (fun K => K = J)) := by
  refine cP.of_gP (d := d + 1) me_19 ⟨Nat.le_of_ble_eq_true rfl, rfl⟩ ?_
  show gP mm_cs0 _ _ _ _ _ _ [some (.int _), some (.int _), none, none] [] _ _
  refine gp_iload_n dX3_holderOf_0 rfl ?_
  refine gp_istore_n (ls' := [some (.int _), some (.int _), some (.int _), none]) dX3_holderOf_1 rfl (Nat.le_of_ble_eq_true rfl) ?_
  refine gp_pu (st' := .int (0) :: _) dX3_holderOf_2 rfl ?_
  refine gp_istore_n (ls' := [some (.int _), some (.int _), some (.int _), some (.int _)]) dX3_holderOf_3 rfl (Nat.le_of_ble_eq_true rfl) ?_
  refine gp_iload_n dX3_holderOf_4 rfl ?_
  refine gp_pu (st' := .int (7) :: _) dX3_holderOf_5 rfl ?_
  refine gp_icc (t := 42) dX3_holderOf_7 (by decide) c2_ge (fun h1 => ?_) (fun h1 => ?_)
  · exact absurd h1 (by decide)
  · have h1' := Int32.not_le.mp h1
    refine gp_iload_n dX3_holderOf_10 rfl ?_
    refine gp_call (kind := 0) (args := [.int _]) (rest := _) dX3_holderOf_11 (Or.inl ⟨rfl, rfl⟩) mk_3_38 (by decide) me_102 rfl rfl rfl rfl rfl rfl (ok_X8_isKind _ _ _ _) rfl ?_
    refine gp_ifc (t := 42) dX3_holderOf_14 (by decide) c1_eq (fun h2 => ?_) (fun h2 => ?_)
    · exact absurd h2 (by decide)
    · refine gp_gs dX3_holderOf_17 rfl ?_
      refine gp_iload_n dX3_holderOf_20 rfl ?_
      refine gp_pu (st' := .int (7) :: _) dX3_holderOf_21 rfl ?_
      refine gp_pu (st' := .int _ :: _) dX3_holderOf_23 rfl ?_
      refine gp_iload_n dX3_holderOf_24 rfl ?_
      refine gp_pu (st' := .int _ :: _) dX3_holderOf_25 rfl ?_
      refine gp_iacv (y := (0)) dX3_holderOf_26 rfl (by decide) (by decide) ?_
      refine gp_ifc (t := 42) dX3_holderOf_27 (by decide) c1_ne (fun h3 => ?_) (fun h3 => ?_)
      · exact absurd h3 (by decide)
      · refine gp_gs dX3_holderOf_30 rfl ?_
        refine gp_iload_n dX3_holderOf_33 rfl ?_
        refine gp_iacv (y := (0)) dX3_holderOf_34 rfl (by decide) (by decide) ?_
        refine gp_istore_n (ls' := [some (.int _), some (.int _), some (.int _), some (.int _)]) dX3_holderOf_35 rfl (Nat.le_of_ble_eq_true rfl) ?_
        refine gp_iinc (v := (1)) (ls' := [some (.int _), some (.int _), some (.int _), some (.int _)]) dX3_holderOf_36 rfl (by decide) rfl ?_
        refine gp_goto (t := 4) dX3_holderOf_39 (by decide) ?_
        refine gp_iload_n dX3_holderOf_4 rfl ?_
        refine gp_pu (st' := .int (7) :: _) dX3_holderOf_5 rfl ?_
        refine gp_icc (t := 42) dX3_holderOf_7 (by decide) c2_ge (fun h4 => ?_) (fun h4 => ?_)
        · exact absurd h4 (by decide)
        · have h4' := Int32.not_le.mp h4
          refine gp_iload_n dX3_holderOf_10 rfl ?_
          refine gp_call (kind := 0) (args := [.int _]) (rest := _) dX3_holderOf_11 (Or.inl ⟨rfl, rfl⟩) mk_3_38 (by decide) me_102 rfl rfl rfl rfl rfl rfl (ok_X8_isKind _ _ _ _) rfl ?_
          refine gp_ifc (t := 42) dX3_holderOf_14 (by decide) c1_eq (fun h5 => ?_) (fun h5 => ?_)
          · exact absurd h5 (by decide)
          · refine gp_gs dX3_holderOf_17 rfl ?_
            refine gp_iload_n dX3_holderOf_20 rfl ?_
            refine gp_pu (st' := .int (7) :: _) dX3_holderOf_21 rfl ?_
            refine gp_pu (st' := .int _ :: _) dX3_holderOf_23 rfl ?_
            refine gp_iload_n dX3_holderOf_24 rfl ?_
            refine gp_pu (st' := .int _ :: _) dX3_holderOf_25 rfl ?_
            refine gp_iacv (y := (11)) dX3_holderOf_26 rfl (by decide) (by decide) ?_
            refine gp_ifc (t := 42) dX3_holderOf_27 (by decide) c1_ne (fun h6 => ?_) (fun h6 => ?_)
            · refine gp_iload_n dX3_holderOf_42 rfl ?_
              refine gp_iret dX3_holderOf_43 rfl ?_
              exact pX.mk rfl rfl
            · exact absurd (by decide) h6

set_option maxHeartbeats 400000 in
theorem hd_1_2 (d : Nat) : cP (d + 2) 19 [.int 1, .int 2] (mm_sh, mm_R, J, L) (pX (some (.int 2)) L (fun K => K = J)) := by
  refine cP.of_gP (d := d + 1) me_19 ⟨Nat.le_of_ble_eq_true rfl, rfl⟩ ?_
  show gP mm_cs0 _ _ _ _ _ _ [some (.int _), some (.int _), none, none] [] _ _
  refine gp_iload_n dX3_holderOf_0 rfl ?_
  refine gp_istore_n (ls' := [some (.int _), some (.int _), some (.int _), none]) dX3_holderOf_1 rfl (Nat.le_of_ble_eq_true rfl) ?_
  refine gp_pu (st' := .int (0) :: _) dX3_holderOf_2 rfl ?_
  refine gp_istore_n (ls' := [some (.int _), some (.int _), some (.int _), some (.int _)]) dX3_holderOf_3 rfl (Nat.le_of_ble_eq_true rfl) ?_
  refine gp_iload_n dX3_holderOf_4 rfl ?_
  refine gp_pu (st' := .int (7) :: _) dX3_holderOf_5 rfl ?_
  refine gp_icc (t := 42) dX3_holderOf_7 (by decide) c2_ge (fun h1 => ?_) (fun h1 => ?_)
  · exact absurd h1 (by decide)
  · have h1' := Int32.not_le.mp h1
    refine gp_iload_n dX3_holderOf_10 rfl ?_
    refine gp_call (kind := 0) (args := [.int _]) (rest := _) dX3_holderOf_11 (Or.inl ⟨rfl, rfl⟩) mk_3_38 (by decide) me_102 rfl rfl rfl rfl rfl rfl (ok_X8_isKind _ _ _ _) rfl ?_
    refine gp_ifc (t := 42) dX3_holderOf_14 (by decide) c1_eq (fun h2 => ?_) (fun h2 => ?_)
    · exact absurd h2 (by decide)
    · refine gp_gs dX3_holderOf_17 rfl ?_
      refine gp_iload_n dX3_holderOf_20 rfl ?_
      refine gp_pu (st' := .int (7) :: _) dX3_holderOf_21 rfl ?_
      refine gp_pu (st' := .int _ :: _) dX3_holderOf_23 rfl ?_
      refine gp_iload_n dX3_holderOf_24 rfl ?_
      refine gp_pu (st' := .int _ :: _) dX3_holderOf_25 rfl ?_
      refine gp_iacv (y := (30)) dX3_holderOf_26 rfl (by decide) (by decide) ?_
      refine gp_ifc (t := 42) dX3_holderOf_27 (by decide) c1_ne (fun h3 => ?_) (fun h3 => ?_)
      · refine gp_iload_n dX3_holderOf_42 rfl ?_
        refine gp_iret dX3_holderOf_43 rfl ?_
        exact pX.mk rfl rfl
      · exact absurd (by decide) h3

set_option maxHeartbeats 400000 in
theorem hd_1_3 (d : Nat) : cP (d + 2) 19 [.int 1, .int 3] (mm_sh, mm_R, J, L) (pX (some (.int 3)) L (fun K => K = J)) := by
  refine cP.of_gP (d := d + 1) me_19 ⟨Nat.le_of_ble_eq_true rfl, rfl⟩ ?_
  show gP mm_cs0 _ _ _ _ _ _ [some (.int _), some (.int _), none, none] [] _ _
  refine gp_iload_n dX3_holderOf_0 rfl ?_
  refine gp_istore_n (ls' := [some (.int _), some (.int _), some (.int _), none]) dX3_holderOf_1 rfl (Nat.le_of_ble_eq_true rfl) ?_
  refine gp_pu (st' := .int (0) :: _) dX3_holderOf_2 rfl ?_
  refine gp_istore_n (ls' := [some (.int _), some (.int _), some (.int _), some (.int _)]) dX3_holderOf_3 rfl (Nat.le_of_ble_eq_true rfl) ?_
  refine gp_iload_n dX3_holderOf_4 rfl ?_
  refine gp_pu (st' := .int (7) :: _) dX3_holderOf_5 rfl ?_
  refine gp_icc (t := 42) dX3_holderOf_7 (by decide) c2_ge (fun h1 => ?_) (fun h1 => ?_)
  · exact absurd h1 (by decide)
  · have h1' := Int32.not_le.mp h1
    refine gp_iload_n dX3_holderOf_10 rfl ?_
    refine gp_call (kind := 0) (args := [.int _]) (rest := _) dX3_holderOf_11 (Or.inl ⟨rfl, rfl⟩) mk_3_38 (by decide) me_102 rfl rfl rfl rfl rfl rfl (ok_X8_isKind _ _ _ _) rfl ?_
    refine gp_ifc (t := 42) dX3_holderOf_14 (by decide) c1_eq (fun h2 => ?_) (fun h2 => ?_)
    · exact absurd h2 (by decide)
    · refine gp_gs dX3_holderOf_17 rfl ?_
      refine gp_iload_n dX3_holderOf_20 rfl ?_
      refine gp_pu (st' := .int (7) :: _) dX3_holderOf_21 rfl ?_
      refine gp_pu (st' := .int _ :: _) dX3_holderOf_23 rfl ?_
      refine gp_iload_n dX3_holderOf_24 rfl ?_
      refine gp_pu (st' := .int _ :: _) dX3_holderOf_25 rfl ?_
      refine gp_iacv (y := (40)) dX3_holderOf_26 rfl (by decide) (by decide) ?_
      refine gp_ifc (t := 42) dX3_holderOf_27 (by decide) c1_ne (fun h3 => ?_) (fun h3 => ?_)
      · refine gp_iload_n dX3_holderOf_42 rfl ?_
        refine gp_iret dX3_holderOf_43 rfl ?_
        exact pX.mk rfl rfl
      · exact absurd (by decide) h3

set_option maxHeartbeats 400000 in
theorem hd_1_4 (d : Nat) : cP (d + 2) 19 [.int 1, .int 4] (mm_sh, mm_R, J, L) (pX (some (.int 0)) L (fun K => K = J)) := by
  refine cP.of_gP (d := d + 1) me_19 ⟨Nat.le_of_ble_eq_true rfl, rfl⟩ ?_
  show gP mm_cs0 _ _ _ _ _ _ [some (.int _), some (.int _), none, none] [] _ _
  refine gp_iload_n dX3_holderOf_0 rfl ?_
  refine gp_istore_n (ls' := [some (.int _), some (.int _), some (.int _), none]) dX3_holderOf_1 rfl (Nat.le_of_ble_eq_true rfl) ?_
  refine gp_pu (st' := .int (0) :: _) dX3_holderOf_2 rfl ?_
  refine gp_istore_n (ls' := [some (.int _), some (.int _), some (.int _), some (.int _)]) dX3_holderOf_3 rfl (Nat.le_of_ble_eq_true rfl) ?_
  refine gp_iload_n dX3_holderOf_4 rfl ?_
  refine gp_pu (st' := .int (7) :: _) dX3_holderOf_5 rfl ?_
  refine gp_icc (t := 42) dX3_holderOf_7 (by decide) c2_ge (fun h1 => ?_) (fun h1 => ?_)
  · exact absurd h1 (by decide)
  · have h1' := Int32.not_le.mp h1
    refine gp_iload_n dX3_holderOf_10 rfl ?_
    refine gp_call (kind := 0) (args := [.int _]) (rest := _) dX3_holderOf_11 (Or.inl ⟨rfl, rfl⟩) mk_3_38 (by decide) me_102 rfl rfl rfl rfl rfl rfl (ok_X8_isKind _ _ _ _) rfl ?_
    refine gp_ifc (t := 42) dX3_holderOf_14 (by decide) c1_eq (fun h2 => ?_) (fun h2 => ?_)
    · exact absurd h2 (by decide)
    · refine gp_gs dX3_holderOf_17 rfl ?_
      refine gp_iload_n dX3_holderOf_20 rfl ?_
      refine gp_pu (st' := .int (7) :: _) dX3_holderOf_21 rfl ?_
      refine gp_pu (st' := .int _ :: _) dX3_holderOf_23 rfl ?_
      refine gp_iload_n dX3_holderOf_24 rfl ?_
      refine gp_pu (st' := .int _ :: _) dX3_holderOf_25 rfl ?_
      refine gp_iacv (y := (0)) dX3_holderOf_26 rfl (by decide) (by decide) ?_
      refine gp_ifc (t := 42) dX3_holderOf_27 (by decide) c1_ne (fun h3 => ?_) (fun h3 => ?_)
      · exact absurd h3 (by decide)
      · refine gp_gs dX3_holderOf_30 rfl ?_
        refine gp_iload_n dX3_holderOf_33 rfl ?_
        refine gp_iacv (y := (0)) dX3_holderOf_34 rfl (by decide) (by decide) ?_
        refine gp_istore_n (ls' := [some (.int _), some (.int _), some (.int _), some (.int _)]) dX3_holderOf_35 rfl (Nat.le_of_ble_eq_true rfl) ?_
        refine gp_iinc (v := (1)) (ls' := [some (.int _), some (.int _), some (.int _), some (.int _)]) dX3_holderOf_36 rfl (by decide) rfl ?_
        refine gp_goto (t := 4) dX3_holderOf_39 (by decide) ?_
        refine gp_iload_n dX3_holderOf_4 rfl ?_
        refine gp_pu (st' := .int (7) :: _) dX3_holderOf_5 rfl ?_
        refine gp_icc (t := 42) dX3_holderOf_7 (by decide) c2_ge (fun h4 => ?_) (fun h4 => ?_)
        · exact absurd h4 (by decide)
        · have h4' := Int32.not_le.mp h4
          refine gp_iload_n dX3_holderOf_10 rfl ?_
          refine gp_call (kind := 0) (args := [.int _]) (rest := _) dX3_holderOf_11 (Or.inl ⟨rfl, rfl⟩) mk_3_38 (by decide) me_102 rfl rfl rfl rfl rfl rfl (ok_X8_isKind _ _ _ _) rfl ?_
          refine gp_ifc (t := 42) dX3_holderOf_14 (by decide) c1_eq (fun h5 => ?_) (fun h5 => ?_)
          · exact absurd h5 (by decide)
          · refine gp_gs dX3_holderOf_17 rfl ?_
            refine gp_iload_n dX3_holderOf_20 rfl ?_
            refine gp_pu (st' := .int (7) :: _) dX3_holderOf_21 rfl ?_
            refine gp_pu (st' := .int _ :: _) dX3_holderOf_23 rfl ?_
            refine gp_iload_n dX3_holderOf_24 rfl ?_
            refine gp_pu (st' := .int _ :: _) dX3_holderOf_25 rfl ?_
            refine gp_iacv (y := (11)) dX3_holderOf_26 rfl (by decide) (by decide) ?_
            refine gp_ifc (t := 42) dX3_holderOf_27 (by decide) c1_ne (fun h6 => ?_) (fun h6 => ?_)
            · refine gp_iload_n dX3_holderOf_42 rfl ?_
              refine gp_iret dX3_holderOf_43 rfl ?_
              exact pX.mk rfl rfl
            · exact absurd (by decide) h6

set_option maxHeartbeats 400000 in
theorem hd_1_5 (d : Nat) : cP (d + 2) 19 [.int 1, .int 5] (mm_sh, mm_R, J, L) (pX (some (.int 2)) L (fun K => K = J)) := by
  refine cP.of_gP (d := d + 1) me_19 ⟨Nat.le_of_ble_eq_true rfl, rfl⟩ ?_
  show gP mm_cs0 _ _ _ _ _ _ [some (.int _), some (.int _), none, none] [] _ _
  refine gp_iload_n dX3_holderOf_0 rfl ?_
  refine gp_istore_n (ls' := [some (.int _), some (.int _), some (.int _), none]) dX3_holderOf_1 rfl (Nat.le_of_ble_eq_true rfl) ?_
  refine gp_pu (st' := .int (0) :: _) dX3_holderOf_2 rfl ?_
  refine gp_istore_n (ls' := [some (.int _), some (.int _), some (.int _), some (.int _)]) dX3_holderOf_3 rfl (Nat.le_of_ble_eq_true rfl) ?_
  refine gp_iload_n dX3_holderOf_4 rfl ?_
  refine gp_pu (st' := .int (7) :: _) dX3_holderOf_5 rfl ?_
  refine gp_icc (t := 42) dX3_holderOf_7 (by decide) c2_ge (fun h1 => ?_) (fun h1 => ?_)
  · exact absurd h1 (by decide)
  · have h1' := Int32.not_le.mp h1
    refine gp_iload_n dX3_holderOf_10 rfl ?_
    refine gp_call (kind := 0) (args := [.int _]) (rest := _) dX3_holderOf_11 (Or.inl ⟨rfl, rfl⟩) mk_3_38 (by decide) me_102 rfl rfl rfl rfl rfl rfl (ok_X8_isKind _ _ _ _) rfl ?_
    refine gp_ifc (t := 42) dX3_holderOf_14 (by decide) c1_eq (fun h2 => ?_) (fun h2 => ?_)
    · exact absurd h2 (by decide)
    · refine gp_gs dX3_holderOf_17 rfl ?_
      refine gp_iload_n dX3_holderOf_20 rfl ?_
      refine gp_pu (st' := .int (7) :: _) dX3_holderOf_21 rfl ?_
      refine gp_pu (st' := .int _ :: _) dX3_holderOf_23 rfl ?_
      refine gp_iload_n dX3_holderOf_24 rfl ?_
      refine gp_pu (st' := .int _ :: _) dX3_holderOf_25 rfl ?_
      refine gp_iacv (y := (0)) dX3_holderOf_26 rfl (by decide) (by decide) ?_
      refine gp_ifc (t := 42) dX3_holderOf_27 (by decide) c1_ne (fun h3 => ?_) (fun h3 => ?_)
      · exact absurd h3 (by decide)
      · refine gp_gs dX3_holderOf_30 rfl ?_
        refine gp_iload_n dX3_holderOf_33 rfl ?_
        refine gp_iacv (y := (2)) dX3_holderOf_34 rfl (by decide) (by decide) ?_
        refine gp_istore_n (ls' := [some (.int _), some (.int _), some (.int _), some (.int _)]) dX3_holderOf_35 rfl (Nat.le_of_ble_eq_true rfl) ?_
        refine gp_iinc (v := (1)) (ls' := [some (.int _), some (.int _), some (.int _), some (.int _)]) dX3_holderOf_36 rfl (by decide) rfl ?_
        refine gp_goto (t := 4) dX3_holderOf_39 (by decide) ?_
        refine gp_iload_n dX3_holderOf_4 rfl ?_
        refine gp_pu (st' := .int (7) :: _) dX3_holderOf_5 rfl ?_
        refine gp_icc (t := 42) dX3_holderOf_7 (by decide) c2_ge (fun h4 => ?_) (fun h4 => ?_)
        · exact absurd h4 (by decide)
        · have h4' := Int32.not_le.mp h4
          refine gp_iload_n dX3_holderOf_10 rfl ?_
          refine gp_call (kind := 0) (args := [.int _]) (rest := _) dX3_holderOf_11 (Or.inl ⟨rfl, rfl⟩) mk_3_38 (by decide) me_102 rfl rfl rfl rfl rfl rfl (ok_X8_isKind _ _ _ _) rfl ?_
          refine gp_ifc (t := 42) dX3_holderOf_14 (by decide) c1_eq (fun h5 => ?_) (fun h5 => ?_)
          · exact absurd h5 (by decide)
          · refine gp_gs dX3_holderOf_17 rfl ?_
            refine gp_iload_n dX3_holderOf_20 rfl ?_
            refine gp_pu (st' := .int (7) :: _) dX3_holderOf_21 rfl ?_
            refine gp_pu (st' := .int _ :: _) dX3_holderOf_23 rfl ?_
            refine gp_iload_n dX3_holderOf_24 rfl ?_
            refine gp_pu (st' := .int _ :: _) dX3_holderOf_25 rfl ?_
            refine gp_iacv (y := (30)) dX3_holderOf_26 rfl (by decide) (by decide) ?_
            refine gp_ifc (t := 42) dX3_holderOf_27 (by decide) c1_ne (fun h6 => ?_) (fun h6 => ?_)
            · refine gp_iload_n dX3_holderOf_42 rfl ?_
              refine gp_iret dX3_holderOf_43 rfl ?_
              exact pX.mk rfl rfl
            · exact absurd (by decide) h6

set_option maxHeartbeats 400000 in
theorem hd_1_6 (d : Nat) : cP (d + 2) 19 [.int 1, .int 6] (mm_sh, mm_R, J, L) (pX (some (.int 6)) L (fun K => K = J)) := by
  refine cP.of_gP (d := d + 1) me_19 ⟨Nat.le_of_ble_eq_true rfl, rfl⟩ ?_
  show gP mm_cs0 _ _ _ _ _ _ [some (.int _), some (.int _), none, none] [] _ _
  refine gp_iload_n dX3_holderOf_0 rfl ?_
  refine gp_istore_n (ls' := [some (.int _), some (.int _), some (.int _), none]) dX3_holderOf_1 rfl (Nat.le_of_ble_eq_true rfl) ?_
  refine gp_pu (st' := .int (0) :: _) dX3_holderOf_2 rfl ?_
  refine gp_istore_n (ls' := [some (.int _), some (.int _), some (.int _), some (.int _)]) dX3_holderOf_3 rfl (Nat.le_of_ble_eq_true rfl) ?_
  refine gp_iload_n dX3_holderOf_4 rfl ?_
  refine gp_pu (st' := .int (7) :: _) dX3_holderOf_5 rfl ?_
  refine gp_icc (t := 42) dX3_holderOf_7 (by decide) c2_ge (fun h1 => ?_) (fun h1 => ?_)
  · exact absurd h1 (by decide)
  · have h1' := Int32.not_le.mp h1
    refine gp_iload_n dX3_holderOf_10 rfl ?_
    refine gp_call (kind := 0) (args := [.int _]) (rest := _) dX3_holderOf_11 (Or.inl ⟨rfl, rfl⟩) mk_3_38 (by decide) me_102 rfl rfl rfl rfl rfl rfl (ok_X8_isKind _ _ _ _) rfl ?_
    refine gp_ifc (t := 42) dX3_holderOf_14 (by decide) c1_eq (fun h2 => ?_) (fun h2 => ?_)
    · exact absurd h2 (by decide)
    · refine gp_gs dX3_holderOf_17 rfl ?_
      refine gp_iload_n dX3_holderOf_20 rfl ?_
      refine gp_pu (st' := .int (7) :: _) dX3_holderOf_21 rfl ?_
      refine gp_pu (st' := .int _ :: _) dX3_holderOf_23 rfl ?_
      refine gp_iload_n dX3_holderOf_24 rfl ?_
      refine gp_pu (st' := .int _ :: _) dX3_holderOf_25 rfl ?_
      refine gp_iacv (y := (71)) dX3_holderOf_26 rfl (by decide) (by decide) ?_
      refine gp_ifc (t := 42) dX3_holderOf_27 (by decide) c1_ne (fun h3 => ?_) (fun h3 => ?_)
      · refine gp_iload_n dX3_holderOf_42 rfl ?_
        refine gp_iret dX3_holderOf_43 rfl ?_
        exact pX.mk rfl rfl
      · exact absurd (by decide) h3

set_option maxHeartbeats 400000 in
theorem hd_2_0 (d : Nat) : cP (d + 2) 19 [.int 2, .int 0] (mm_sh, mm_R, J, L) (pX (some (.int 0)) L (fun K => K = J)) := by
  refine cP.of_gP (d := d + 1) me_19 ⟨Nat.le_of_ble_eq_true rfl, rfl⟩ ?_
  show gP mm_cs0 _ _ _ _ _ _ [some (.int _), some (.int _), none, none] [] _ _
  refine gp_iload_n dX3_holderOf_0 rfl ?_
  refine gp_istore_n (ls' := [some (.int _), some (.int _), some (.int _), none]) dX3_holderOf_1 rfl (Nat.le_of_ble_eq_true rfl) ?_
  refine gp_pu (st' := .int (0) :: _) dX3_holderOf_2 rfl ?_
  refine gp_istore_n (ls' := [some (.int _), some (.int _), some (.int _), some (.int _)]) dX3_holderOf_3 rfl (Nat.le_of_ble_eq_true rfl) ?_
  refine gp_iload_n dX3_holderOf_4 rfl ?_
  refine gp_pu (st' := .int (7) :: _) dX3_holderOf_5 rfl ?_
  refine gp_icc (t := 42) dX3_holderOf_7 (by decide) c2_ge (fun h1 => ?_) (fun h1 => ?_)
  · exact absurd h1 (by decide)
  · have h1' := Int32.not_le.mp h1
    refine gp_iload_n dX3_holderOf_10 rfl ?_
    refine gp_call (kind := 0) (args := [.int _]) (rest := _) dX3_holderOf_11 (Or.inl ⟨rfl, rfl⟩) mk_3_38 (by decide) me_102 rfl rfl rfl rfl rfl rfl (ok_X8_isKind _ _ _ _) rfl ?_
    refine gp_ifc (t := 42) dX3_holderOf_14 (by decide) c1_eq (fun h2 => ?_) (fun h2 => ?_)
    · exact absurd h2 (by decide)
    · refine gp_gs dX3_holderOf_17 rfl ?_
      refine gp_iload_n dX3_holderOf_20 rfl ?_
      refine gp_pu (st' := .int (7) :: _) dX3_holderOf_21 rfl ?_
      refine gp_pu (st' := .int _ :: _) dX3_holderOf_23 rfl ?_
      refine gp_iload_n dX3_holderOf_24 rfl ?_
      refine gp_pu (st' := .int _ :: _) dX3_holderOf_25 rfl ?_
      refine gp_iacv (y := (12)) dX3_holderOf_26 rfl (by decide) (by decide) ?_
      refine gp_ifc (t := 42) dX3_holderOf_27 (by decide) c1_ne (fun h3 => ?_) (fun h3 => ?_)
      · refine gp_iload_n dX3_holderOf_42 rfl ?_
        refine gp_iret dX3_holderOf_43 rfl ?_
        exact pX.mk rfl rfl
      · exact absurd (by decide) h3

set_option maxHeartbeats 400000 in
theorem hd_2_1 (d : Nat) : cP (d + 2) 19 [.int 2, .int 1] (mm_sh, mm_R, J, L) (pX (some (.int 0)) L (fun K => K = J)) := by
  refine cP.of_gP (d := d + 1) me_19 ⟨Nat.le_of_ble_eq_true rfl, rfl⟩ ?_
  show gP mm_cs0 _ _ _ _ _ _ [some (.int _), some (.int _), none, none] [] _ _
  refine gp_iload_n dX3_holderOf_0 rfl ?_
  refine gp_istore_n (ls' := [some (.int _), some (.int _), some (.int _), none]) dX3_holderOf_1 rfl (Nat.le_of_ble_eq_true rfl) ?_
  refine gp_pu (st' := .int (0) :: _) dX3_holderOf_2 rfl ?_
  refine gp_istore_n (ls' := [some (.int _), some (.int _), some (.int _), some (.int _)]) dX3_holderOf_3 rfl (Nat.le_of_ble_eq_true rfl) ?_
  refine gp_iload_n dX3_holderOf_4 rfl ?_
  refine gp_pu (st' := .int (7) :: _) dX3_holderOf_5 rfl ?_
  refine gp_icc (t := 42) dX3_holderOf_7 (by decide) c2_ge (fun h1 => ?_) (fun h1 => ?_)
  · exact absurd h1 (by decide)
  · have h1' := Int32.not_le.mp h1
    refine gp_iload_n dX3_holderOf_10 rfl ?_
    refine gp_call (kind := 0) (args := [.int _]) (rest := _) dX3_holderOf_11 (Or.inl ⟨rfl, rfl⟩) mk_3_38 (by decide) me_102 rfl rfl rfl rfl rfl rfl (ok_X8_isKind _ _ _ _) rfl ?_
    refine gp_ifc (t := 42) dX3_holderOf_14 (by decide) c1_eq (fun h2 => ?_) (fun h2 => ?_)
    · exact absurd h2 (by decide)
    · refine gp_gs dX3_holderOf_17 rfl ?_
      refine gp_iload_n dX3_holderOf_20 rfl ?_
      refine gp_pu (st' := .int (7) :: _) dX3_holderOf_21 rfl ?_
      refine gp_pu (st' := .int _ :: _) dX3_holderOf_23 rfl ?_
      refine gp_iload_n dX3_holderOf_24 rfl ?_
      refine gp_pu (st' := .int _ :: _) dX3_holderOf_25 rfl ?_
      refine gp_iacv (y := (0)) dX3_holderOf_26 rfl (by decide) (by decide) ?_
      refine gp_ifc (t := 42) dX3_holderOf_27 (by decide) c1_ne (fun h3 => ?_) (fun h3 => ?_)
      · exact absurd h3 (by decide)
      · refine gp_gs dX3_holderOf_30 rfl ?_
        refine gp_iload_n dX3_holderOf_33 rfl ?_
        refine gp_iacv (y := (0)) dX3_holderOf_34 rfl (by decide) (by decide) ?_
        refine gp_istore_n (ls' := [some (.int _), some (.int _), some (.int _), some (.int _)]) dX3_holderOf_35 rfl (Nat.le_of_ble_eq_true rfl) ?_
        refine gp_iinc (v := (1)) (ls' := [some (.int _), some (.int _), some (.int _), some (.int _)]) dX3_holderOf_36 rfl (by decide) rfl ?_
        refine gp_goto (t := 4) dX3_holderOf_39 (by decide) ?_
        refine gp_iload_n dX3_holderOf_4 rfl ?_
        refine gp_pu (st' := .int (7) :: _) dX3_holderOf_5 rfl ?_
        refine gp_icc (t := 42) dX3_holderOf_7 (by decide) c2_ge (fun h4 => ?_) (fun h4 => ?_)
        · exact absurd h4 (by decide)
        · have h4' := Int32.not_le.mp h4
          refine gp_iload_n dX3_holderOf_10 rfl ?_
          refine gp_call (kind := 0) (args := [.int _]) (rest := _) dX3_holderOf_11 (Or.inl ⟨rfl, rfl⟩) mk_3_38 (by decide) me_102 rfl rfl rfl rfl rfl rfl (ok_X8_isKind _ _ _ _) rfl ?_
          refine gp_ifc (t := 42) dX3_holderOf_14 (by decide) c1_eq (fun h5 => ?_) (fun h5 => ?_)
          · exact absurd h5 (by decide)
          · refine gp_gs dX3_holderOf_17 rfl ?_
            refine gp_iload_n dX3_holderOf_20 rfl ?_
            refine gp_pu (st' := .int (7) :: _) dX3_holderOf_21 rfl ?_
            refine gp_pu (st' := .int _ :: _) dX3_holderOf_23 rfl ?_
            refine gp_iload_n dX3_holderOf_24 rfl ?_
            refine gp_pu (st' := .int _ :: _) dX3_holderOf_25 rfl ?_
            refine gp_iacv (y := (12)) dX3_holderOf_26 rfl (by decide) (by decide) ?_
            refine gp_ifc (t := 42) dX3_holderOf_27 (by decide) c1_ne (fun h6 => ?_) (fun h6 => ?_)
            · refine gp_iload_n dX3_holderOf_42 rfl ?_
              refine gp_iret dX3_holderOf_43 rfl ?_
              exact pX.mk rfl rfl
            · exact absurd (by decide) h6

set_option maxHeartbeats 400000 in
theorem hd_2_2 (d : Nat) : cP (d + 2) 19 [.int 2, .int 2] (mm_sh, mm_R, J, L) (pX (some (.int 0)) L (fun K => K = J)) := by
  refine cP.of_gP (d := d + 1) me_19 ⟨Nat.le_of_ble_eq_true rfl, rfl⟩ ?_
  show gP mm_cs0 _ _ _ _ _ _ [some (.int _), some (.int _), none, none] [] _ _
  refine gp_iload_n dX3_holderOf_0 rfl ?_
  refine gp_istore_n (ls' := [some (.int _), some (.int _), some (.int _), none]) dX3_holderOf_1 rfl (Nat.le_of_ble_eq_true rfl) ?_
  refine gp_pu (st' := .int (0) :: _) dX3_holderOf_2 rfl ?_
  refine gp_istore_n (ls' := [some (.int _), some (.int _), some (.int _), some (.int _)]) dX3_holderOf_3 rfl (Nat.le_of_ble_eq_true rfl) ?_
  refine gp_iload_n dX3_holderOf_4 rfl ?_
  refine gp_pu (st' := .int (7) :: _) dX3_holderOf_5 rfl ?_
  refine gp_icc (t := 42) dX3_holderOf_7 (by decide) c2_ge (fun h1 => ?_) (fun h1 => ?_)
  · exact absurd h1 (by decide)
  · have h1' := Int32.not_le.mp h1
    refine gp_iload_n dX3_holderOf_10 rfl ?_
    refine gp_call (kind := 0) (args := [.int _]) (rest := _) dX3_holderOf_11 (Or.inl ⟨rfl, rfl⟩) mk_3_38 (by decide) me_102 rfl rfl rfl rfl rfl rfl (ok_X8_isKind _ _ _ _) rfl ?_
    refine gp_ifc (t := 42) dX3_holderOf_14 (by decide) c1_eq (fun h2 => ?_) (fun h2 => ?_)
    · exact absurd h2 (by decide)
    · refine gp_gs dX3_holderOf_17 rfl ?_
      refine gp_iload_n dX3_holderOf_20 rfl ?_
      refine gp_pu (st' := .int (7) :: _) dX3_holderOf_21 rfl ?_
      refine gp_pu (st' := .int _ :: _) dX3_holderOf_23 rfl ?_
      refine gp_iload_n dX3_holderOf_24 rfl ?_
      refine gp_pu (st' := .int _ :: _) dX3_holderOf_25 rfl ?_
      refine gp_iacv (y := (0)) dX3_holderOf_26 rfl (by decide) (by decide) ?_
      refine gp_ifc (t := 42) dX3_holderOf_27 (by decide) c1_ne (fun h3 => ?_) (fun h3 => ?_)
      · exact absurd h3 (by decide)
      · refine gp_gs dX3_holderOf_30 rfl ?_
        refine gp_iload_n dX3_holderOf_33 rfl ?_
        refine gp_iacv (y := (0)) dX3_holderOf_34 rfl (by decide) (by decide) ?_
        refine gp_istore_n (ls' := [some (.int _), some (.int _), some (.int _), some (.int _)]) dX3_holderOf_35 rfl (Nat.le_of_ble_eq_true rfl) ?_
        refine gp_iinc (v := (1)) (ls' := [some (.int _), some (.int _), some (.int _), some (.int _)]) dX3_holderOf_36 rfl (by decide) rfl ?_
        refine gp_goto (t := 4) dX3_holderOf_39 (by decide) ?_
        refine gp_iload_n dX3_holderOf_4 rfl ?_
        refine gp_pu (st' := .int (7) :: _) dX3_holderOf_5 rfl ?_
        refine gp_icc (t := 42) dX3_holderOf_7 (by decide) c2_ge (fun h4 => ?_) (fun h4 => ?_)
        · exact absurd h4 (by decide)
        · have h4' := Int32.not_le.mp h4
          refine gp_iload_n dX3_holderOf_10 rfl ?_
          refine gp_call (kind := 0) (args := [.int _]) (rest := _) dX3_holderOf_11 (Or.inl ⟨rfl, rfl⟩) mk_3_38 (by decide) me_102 rfl rfl rfl rfl rfl rfl (ok_X8_isKind _ _ _ _) rfl ?_
          refine gp_ifc (t := 42) dX3_holderOf_14 (by decide) c1_eq (fun h5 => ?_) (fun h5 => ?_)
          · exact absurd h5 (by decide)
          · refine gp_gs dX3_holderOf_17 rfl ?_
            refine gp_iload_n dX3_holderOf_20 rfl ?_
            refine gp_pu (st' := .int (7) :: _) dX3_holderOf_21 rfl ?_
            refine gp_pu (st' := .int _ :: _) dX3_holderOf_23 rfl ?_
            refine gp_iload_n dX3_holderOf_24 rfl ?_
            refine gp_pu (st' := .int _ :: _) dX3_holderOf_25 rfl ?_
            refine gp_iacv (y := (12)) dX3_holderOf_26 rfl (by decide) (by decide) ?_
            refine gp_ifc (t := 42) dX3_holderOf_27 (by decide) c1_ne (fun h6 => ?_) (fun h6 => ?_)
            · refine gp_iload_n dX3_holderOf_42 rfl ?_
              refine gp_iret dX3_holderOf_43 rfl ?_
              exact pX.mk rfl rfl
            · exact absurd (by decide) h6

set_option maxHeartbeats 400000 in
theorem hd_2_3 (d : Nat) : cP (d + 2) 19 [.int 2, .int 3] (mm_sh, mm_R, J, L) (pX (some (.int 0)) L (fun K => K = J)) := by
  refine cP.of_gP (d := d + 1) me_19 ⟨Nat.le_of_ble_eq_true rfl, rfl⟩ ?_
  show gP mm_cs0 _ _ _ _ _ _ [some (.int _), some (.int _), none, none] [] _ _
  refine gp_iload_n dX3_holderOf_0 rfl ?_
  refine gp_istore_n (ls' := [some (.int _), some (.int _), some (.int _), none]) dX3_holderOf_1 rfl (Nat.le_of_ble_eq_true rfl) ?_
  refine gp_pu (st' := .int (0) :: _) dX3_holderOf_2 rfl ?_
  refine gp_istore_n (ls' := [some (.int _), some (.int _), some (.int _), some (.int _)]) dX3_holderOf_3 rfl (Nat.le_of_ble_eq_true rfl) ?_
  refine gp_iload_n dX3_holderOf_4 rfl ?_
  refine gp_pu (st' := .int (7) :: _) dX3_holderOf_5 rfl ?_
  refine gp_icc (t := 42) dX3_holderOf_7 (by decide) c2_ge (fun h1 => ?_) (fun h1 => ?_)
  · exact absurd h1 (by decide)
  · have h1' := Int32.not_le.mp h1
    refine gp_iload_n dX3_holderOf_10 rfl ?_
    refine gp_call (kind := 0) (args := [.int _]) (rest := _) dX3_holderOf_11 (Or.inl ⟨rfl, rfl⟩) mk_3_38 (by decide) me_102 rfl rfl rfl rfl rfl rfl (ok_X8_isKind _ _ _ _) rfl ?_
    refine gp_ifc (t := 42) dX3_holderOf_14 (by decide) c1_eq (fun h2 => ?_) (fun h2 => ?_)
    · exact absurd h2 (by decide)
    · refine gp_gs dX3_holderOf_17 rfl ?_
      refine gp_iload_n dX3_holderOf_20 rfl ?_
      refine gp_pu (st' := .int (7) :: _) dX3_holderOf_21 rfl ?_
      refine gp_pu (st' := .int _ :: _) dX3_holderOf_23 rfl ?_
      refine gp_iload_n dX3_holderOf_24 rfl ?_
      refine gp_pu (st' := .int _ :: _) dX3_holderOf_25 rfl ?_
      refine gp_iacv (y := (0)) dX3_holderOf_26 rfl (by decide) (by decide) ?_
      refine gp_ifc (t := 42) dX3_holderOf_27 (by decide) c1_ne (fun h3 => ?_) (fun h3 => ?_)
      · exact absurd h3 (by decide)
      · refine gp_gs dX3_holderOf_30 rfl ?_
        refine gp_iload_n dX3_holderOf_33 rfl ?_
        refine gp_iacv (y := (1)) dX3_holderOf_34 rfl (by decide) (by decide) ?_
        refine gp_istore_n (ls' := [some (.int _), some (.int _), some (.int _), some (.int _)]) dX3_holderOf_35 rfl (Nat.le_of_ble_eq_true rfl) ?_
        refine gp_iinc (v := (1)) (ls' := [some (.int _), some (.int _), some (.int _), some (.int _)]) dX3_holderOf_36 rfl (by decide) rfl ?_
        refine gp_goto (t := 4) dX3_holderOf_39 (by decide) ?_
        refine gp_iload_n dX3_holderOf_4 rfl ?_
        refine gp_pu (st' := .int (7) :: _) dX3_holderOf_5 rfl ?_
        refine gp_icc (t := 42) dX3_holderOf_7 (by decide) c2_ge (fun h4 => ?_) (fun h4 => ?_)
        · exact absurd h4 (by decide)
        · have h4' := Int32.not_le.mp h4
          refine gp_iload_n dX3_holderOf_10 rfl ?_
          refine gp_call (kind := 0) (args := [.int _]) (rest := _) dX3_holderOf_11 (Or.inl ⟨rfl, rfl⟩) mk_3_38 (by decide) me_102 rfl rfl rfl rfl rfl rfl (ok_X8_isKind _ _ _ _) rfl ?_
          refine gp_ifc (t := 42) dX3_holderOf_14 (by decide) c1_eq (fun h5 => ?_) (fun h5 => ?_)
          · exact absurd h5 (by decide)
          · refine gp_gs dX3_holderOf_17 rfl ?_
            refine gp_iload_n dX3_holderOf_20 rfl ?_
            refine gp_pu (st' := .int (7) :: _) dX3_holderOf_21 rfl ?_
            refine gp_pu (st' := .int _ :: _) dX3_holderOf_23 rfl ?_
            refine gp_iload_n dX3_holderOf_24 rfl ?_
            refine gp_pu (st' := .int _ :: _) dX3_holderOf_25 rfl ?_
            refine gp_iacv (y := (0)) dX3_holderOf_26 rfl (by decide) (by decide) ?_
            refine gp_ifc (t := 42) dX3_holderOf_27 (by decide) c1_ne (fun h6 => ?_) (fun h6 => ?_)
            · exact absurd h6 (by decide)
            · refine gp_gs dX3_holderOf_30 rfl ?_
              refine gp_iload_n dX3_holderOf_33 rfl ?_
              refine gp_iacv (y := (0)) dX3_holderOf_34 rfl (by decide) (by decide) ?_
              refine gp_istore_n (ls' := [some (.int _), some (.int _), some (.int _), some (.int _)]) dX3_holderOf_35 rfl (Nat.le_of_ble_eq_true rfl) ?_
              refine gp_iinc (v := (1)) (ls' := [some (.int _), some (.int _), some (.int _), some (.int _)]) dX3_holderOf_36 rfl (by decide) rfl ?_
              refine gp_goto (t := 4) dX3_holderOf_39 (by decide) ?_
              refine gp_iload_n dX3_holderOf_4 rfl ?_
              refine gp_pu (st' := .int (7) :: _) dX3_holderOf_5 rfl ?_
              refine gp_icc (t := 42) dX3_holderOf_7 (by decide) c2_ge (fun h7 => ?_) (fun h7 => ?_)
              · exact absurd h7 (by decide)
              · have h7' := Int32.not_le.mp h7
                refine gp_iload_n dX3_holderOf_10 rfl ?_
                refine gp_call (kind := 0) (args := [.int _]) (rest := _) dX3_holderOf_11 (Or.inl ⟨rfl, rfl⟩) mk_3_38 (by decide) me_102 rfl rfl rfl rfl rfl rfl (ok_X8_isKind _ _ _ _) rfl ?_
                refine gp_ifc (t := 42) dX3_holderOf_14 (by decide) c1_eq (fun h8 => ?_) (fun h8 => ?_)
                · exact absurd h8 (by decide)
                · refine gp_gs dX3_holderOf_17 rfl ?_
                  refine gp_iload_n dX3_holderOf_20 rfl ?_
                  refine gp_pu (st' := .int (7) :: _) dX3_holderOf_21 rfl ?_
                  refine gp_pu (st' := .int _ :: _) dX3_holderOf_23 rfl ?_
                  refine gp_iload_n dX3_holderOf_24 rfl ?_
                  refine gp_pu (st' := .int _ :: _) dX3_holderOf_25 rfl ?_
                  refine gp_iacv (y := (12)) dX3_holderOf_26 rfl (by decide) (by decide) ?_
                  refine gp_ifc (t := 42) dX3_holderOf_27 (by decide) c1_ne (fun h9 => ?_) (fun h9 => ?_)
                  · refine gp_iload_n dX3_holderOf_42 rfl ?_
                    refine gp_iret dX3_holderOf_43 rfl ?_
                    exact pX.mk rfl rfl
                  · exact absurd (by decide) h9

set_option maxHeartbeats 400000 in
theorem hd_2_4 (d : Nat) : cP (d + 2) 19 [.int 2, .int 4] (mm_sh, mm_R, J, L) (pX (some (.int 4)) L (fun K => K = J)) := by
  refine cP.of_gP (d := d + 1) me_19 ⟨Nat.le_of_ble_eq_true rfl, rfl⟩ ?_
  show gP mm_cs0 _ _ _ _ _ _ [some (.int _), some (.int _), none, none] [] _ _
  refine gp_iload_n dX3_holderOf_0 rfl ?_
  refine gp_istore_n (ls' := [some (.int _), some (.int _), some (.int _), none]) dX3_holderOf_1 rfl (Nat.le_of_ble_eq_true rfl) ?_
  refine gp_pu (st' := .int (0) :: _) dX3_holderOf_2 rfl ?_
  refine gp_istore_n (ls' := [some (.int _), some (.int _), some (.int _), some (.int _)]) dX3_holderOf_3 rfl (Nat.le_of_ble_eq_true rfl) ?_
  refine gp_iload_n dX3_holderOf_4 rfl ?_
  refine gp_pu (st' := .int (7) :: _) dX3_holderOf_5 rfl ?_
  refine gp_icc (t := 42) dX3_holderOf_7 (by decide) c2_ge (fun h1 => ?_) (fun h1 => ?_)
  · exact absurd h1 (by decide)
  · have h1' := Int32.not_le.mp h1
    refine gp_iload_n dX3_holderOf_10 rfl ?_
    refine gp_call (kind := 0) (args := [.int _]) (rest := _) dX3_holderOf_11 (Or.inl ⟨rfl, rfl⟩) mk_3_38 (by decide) me_102 rfl rfl rfl rfl rfl rfl (ok_X8_isKind _ _ _ _) rfl ?_
    refine gp_ifc (t := 42) dX3_holderOf_14 (by decide) c1_eq (fun h2 => ?_) (fun h2 => ?_)
    · exact absurd h2 (by decide)
    · refine gp_gs dX3_holderOf_17 rfl ?_
      refine gp_iload_n dX3_holderOf_20 rfl ?_
      refine gp_pu (st' := .int (7) :: _) dX3_holderOf_21 rfl ?_
      refine gp_pu (st' := .int _ :: _) dX3_holderOf_23 rfl ?_
      refine gp_iload_n dX3_holderOf_24 rfl ?_
      refine gp_pu (st' := .int _ :: _) dX3_holderOf_25 rfl ?_
      refine gp_iacv (y := (50)) dX3_holderOf_26 rfl (by decide) (by decide) ?_
      refine gp_ifc (t := 42) dX3_holderOf_27 (by decide) c1_ne (fun h3 => ?_) (fun h3 => ?_)
      · refine gp_iload_n dX3_holderOf_42 rfl ?_
        refine gp_iret dX3_holderOf_43 rfl ?_
        exact pX.mk rfl rfl
      · exact absurd (by decide) h3

set_option maxHeartbeats 400000 in
theorem hd_2_5 (d : Nat) : cP (d + 2) 19 [.int 2, .int 5] (mm_sh, mm_R, J, L) (pX (some (.int 5)) L (fun K => K = J)) := by
  refine cP.of_gP (d := d + 1) me_19 ⟨Nat.le_of_ble_eq_true rfl, rfl⟩ ?_
  show gP mm_cs0 _ _ _ _ _ _ [some (.int _), some (.int _), none, none] [] _ _
  refine gp_iload_n dX3_holderOf_0 rfl ?_
  refine gp_istore_n (ls' := [some (.int _), some (.int _), some (.int _), none]) dX3_holderOf_1 rfl (Nat.le_of_ble_eq_true rfl) ?_
  refine gp_pu (st' := .int (0) :: _) dX3_holderOf_2 rfl ?_
  refine gp_istore_n (ls' := [some (.int _), some (.int _), some (.int _), some (.int _)]) dX3_holderOf_3 rfl (Nat.le_of_ble_eq_true rfl) ?_
  refine gp_iload_n dX3_holderOf_4 rfl ?_
  refine gp_pu (st' := .int (7) :: _) dX3_holderOf_5 rfl ?_
  refine gp_icc (t := 42) dX3_holderOf_7 (by decide) c2_ge (fun h1 => ?_) (fun h1 => ?_)
  · exact absurd h1 (by decide)
  · have h1' := Int32.not_le.mp h1
    refine gp_iload_n dX3_holderOf_10 rfl ?_
    refine gp_call (kind := 0) (args := [.int _]) (rest := _) dX3_holderOf_11 (Or.inl ⟨rfl, rfl⟩) mk_3_38 (by decide) me_102 rfl rfl rfl rfl rfl rfl (ok_X8_isKind _ _ _ _) rfl ?_
    refine gp_ifc (t := 42) dX3_holderOf_14 (by decide) c1_eq (fun h2 => ?_) (fun h2 => ?_)
    · exact absurd h2 (by decide)
    · refine gp_gs dX3_holderOf_17 rfl ?_
      refine gp_iload_n dX3_holderOf_20 rfl ?_
      refine gp_pu (st' := .int (7) :: _) dX3_holderOf_21 rfl ?_
      refine gp_pu (st' := .int _ :: _) dX3_holderOf_23 rfl ?_
      refine gp_iload_n dX3_holderOf_24 rfl ?_
      refine gp_pu (st' := .int _ :: _) dX3_holderOf_25 rfl ?_
      refine gp_iacv (y := (60)) dX3_holderOf_26 rfl (by decide) (by decide) ?_
      refine gp_ifc (t := 42) dX3_holderOf_27 (by decide) c1_ne (fun h3 => ?_) (fun h3 => ?_)
      · refine gp_iload_n dX3_holderOf_42 rfl ?_
        refine gp_iret dX3_holderOf_43 rfl ?_
        exact pX.mk rfl rfl
      · exact absurd (by decide) h3

set_option maxHeartbeats 400000 in
theorem hd_2_6 (d : Nat) : cP (d + 2) 19 [.int 2, .int 6] (mm_sh, mm_R, J, L) (pX (some (.int 4)) L (fun K => K = J)) := by
  refine cP.of_gP (d := d + 1) me_19 ⟨Nat.le_of_ble_eq_true rfl, rfl⟩ ?_
  show gP mm_cs0 _ _ _ _ _ _ [some (.int _), some (.int _), none, none] [] _ _
  refine gp_iload_n dX3_holderOf_0 rfl ?_
  refine gp_istore_n (ls' := [some (.int _), some (.int _), some (.int _), none]) dX3_holderOf_1 rfl (Nat.le_of_ble_eq_true rfl) ?_
  refine gp_pu (st' := .int (0) :: _) dX3_holderOf_2 rfl ?_
  refine gp_istore_n (ls' := [some (.int _), some (.int _), some (.int _), some (.int _)]) dX3_holderOf_3 rfl (Nat.le_of_ble_eq_true rfl) ?_
  refine gp_iload_n dX3_holderOf_4 rfl ?_
  refine gp_pu (st' := .int (7) :: _) dX3_holderOf_5 rfl ?_
  refine gp_icc (t := 42) dX3_holderOf_7 (by decide) c2_ge (fun h1 => ?_) (fun h1 => ?_)
  · exact absurd h1 (by decide)
  · have h1' := Int32.not_le.mp h1
    refine gp_iload_n dX3_holderOf_10 rfl ?_
    refine gp_call (kind := 0) (args := [.int _]) (rest := _) dX3_holderOf_11 (Or.inl ⟨rfl, rfl⟩) mk_3_38 (by decide) me_102 rfl rfl rfl rfl rfl rfl (ok_X8_isKind _ _ _ _) rfl ?_
    refine gp_ifc (t := 42) dX3_holderOf_14 (by decide) c1_eq (fun h2 => ?_) (fun h2 => ?_)
    · exact absurd h2 (by decide)
    · refine gp_gs dX3_holderOf_17 rfl ?_
      refine gp_iload_n dX3_holderOf_20 rfl ?_
      refine gp_pu (st' := .int (7) :: _) dX3_holderOf_21 rfl ?_
      refine gp_pu (st' := .int _ :: _) dX3_holderOf_23 rfl ?_
      refine gp_iload_n dX3_holderOf_24 rfl ?_
      refine gp_pu (st' := .int _ :: _) dX3_holderOf_25 rfl ?_
      refine gp_iacv (y := (0)) dX3_holderOf_26 rfl (by decide) (by decide) ?_
      refine gp_ifc (t := 42) dX3_holderOf_27 (by decide) c1_ne (fun h3 => ?_) (fun h3 => ?_)
      · exact absurd h3 (by decide)
      · refine gp_gs dX3_holderOf_30 rfl ?_
        refine gp_iload_n dX3_holderOf_33 rfl ?_
        refine gp_iacv (y := (4)) dX3_holderOf_34 rfl (by decide) (by decide) ?_
        refine gp_istore_n (ls' := [some (.int _), some (.int _), some (.int _), some (.int _)]) dX3_holderOf_35 rfl (Nat.le_of_ble_eq_true rfl) ?_
        refine gp_iinc (v := (1)) (ls' := [some (.int _), some (.int _), some (.int _), some (.int _)]) dX3_holderOf_36 rfl (by decide) rfl ?_
        refine gp_goto (t := 4) dX3_holderOf_39 (by decide) ?_
        refine gp_iload_n dX3_holderOf_4 rfl ?_
        refine gp_pu (st' := .int (7) :: _) dX3_holderOf_5 rfl ?_
        refine gp_icc (t := 42) dX3_holderOf_7 (by decide) c2_ge (fun h4 => ?_) (fun h4 => ?_)
        · exact absurd h4 (by decide)
        · have h4' := Int32.not_le.mp h4
          refine gp_iload_n dX3_holderOf_10 rfl ?_
          refine gp_call (kind := 0) (args := [.int _]) (rest := _) dX3_holderOf_11 (Or.inl ⟨rfl, rfl⟩) mk_3_38 (by decide) me_102 rfl rfl rfl rfl rfl rfl (ok_X8_isKind _ _ _ _) rfl ?_
          refine gp_ifc (t := 42) dX3_holderOf_14 (by decide) c1_eq (fun h5 => ?_) (fun h5 => ?_)
          · exact absurd h5 (by decide)
          · refine gp_gs dX3_holderOf_17 rfl ?_
            refine gp_iload_n dX3_holderOf_20 rfl ?_
            refine gp_pu (st' := .int (7) :: _) dX3_holderOf_21 rfl ?_
            refine gp_pu (st' := .int _ :: _) dX3_holderOf_23 rfl ?_
            refine gp_iload_n dX3_holderOf_24 rfl ?_
            refine gp_pu (st' := .int _ :: _) dX3_holderOf_25 rfl ?_
            refine gp_iacv (y := (50)) dX3_holderOf_26 rfl (by decide) (by decide) ?_
            refine gp_ifc (t := 42) dX3_holderOf_27 (by decide) c1_ne (fun h6 => ?_) (fun h6 => ?_)
            · refine gp_iload_n dX3_holderOf_42 rfl ?_
              refine gp_iret dX3_holderOf_43 rfl ?_
              exact pX.mk rfl rfl
            · exact absurd (by decide) h6

set_option maxHeartbeats 400000 in
theorem rn_0_0 (d : Nat) {m a x dd : Int32} {k0 : Int32} {r : Nat} (h : mvs J k0 m a r) (hr : r + 1 ≤ 20) (hd : 0 ≤ dd.toInt ∧ dd.toInt + 0 ≤ 12) : cP (d + 3) 20 [.ref 71, .int 0, .int 0, .int x, .int dd] (mm_sh, mm_R, J, L) (pX (some (.int (x + m))) L (fun K => K = nls J r [10])) := by
  refine cP.of_gP (d := d + 2) me_20 ⟨Nat.le_of_ble_eq_true rfl, rfl⟩ ?_
  show gP mm_cs0 _ _ _ _ _ _ [some (.ref _), some (.int _), some (.int _), some (.int _), some (.int _), none, none, none, none] [] _ _
  refine gp_iload dX3_runFrom_0 rfl ?_
  refine gp_pu (st' := .int (12) :: _) dX3_runFrom_2 rfl ?_
  refine gp_icc (t := 23) dX3_runFrom_4 (by decide) c2_gt (fun h1 => ?_) (fun h1 => ?_)
  · exact absurd h1 (d_12 hd (by decide))
  · have h1' := Int32.not_lt.mp h1
    refine gp_iload_n dX3_runFrom_7 rfl ?_
    refine gp_ifc (t := 23) dX3_runFrom_8 (by decide) c1_lt (fun h2 => ?_) (fun h2 => ?_)
    · exact absurd h2 (by decide)
    · have h2' := Int32.not_lt.mp h2
      refine gp_iload_n dX3_runFrom_11 rfl ?_
      refine gp_pu (st' := .int (3) :: _) dX3_runFrom_12 rfl ?_
      refine gp_icc (t := 23) dX3_runFrom_13 (by decide) c2_ge (fun h3 => ?_) (fun h3 => ?_)
      · exact absurd h3 (by decide)
      · have h3' := Int32.not_le.mp h3
        refine gp_iload_n dX3_runFrom_16 rfl ?_
        refine gp_call (kind := 0) (args := [.int _]) (rest := _) dX3_runFrom_17 (Or.inl ⟨rfl, rfl⟩) mk_3_38 (by decide) me_102 rfl rfl rfl rfl rfl rfl (ok_X8_isKind _ _ _ _) rfl ?_
        refine gp_ifc (t := 25) dX3_runFrom_20 (by decide) c1_ne (fun h4 => ?_) (fun h4 => ?_)
        · refine gp_iload_n dX3_runFrom_25 rfl ?_
          refine gp_iload_n dX3_runFrom_26 rfl ?_
          refine gp_callX (kind := 0) (args := [.int _, .int _]) (rest := _) dX3_runFrom_27 (Or.inl ⟨rfl, rfl⟩) mk_3_48 (by decide) me_19 rfl rfl rfl rfl rfl rfl (hd_0_0 _) ?_
          intro K1 hK1
          rw [hK1]
          refine gp_istore (ls' := [some (.ref _), some (.int _), some (.int _), some (.int _), some (.int _), some (.int _), none, none, none]) dX3_runFrom_30 rfl (Nat.le_of_ble_eq_true rfl) ?_
          refine gp_iload dX3_runFrom_32 rfl ?_
          refine gp_call (kind := 0) (args := [.int _]) (rest := _) dX3_runFrom_34 (Or.inl ⟨rfl, rfl⟩) mk_3_38 (by decide) me_102 rfl rfl rfl rfl rfl rfl (ok_X8_isKind _ _ _ _) rfl ?_
          refine gp_ifc (t := 42) dX3_runFrom_37 (by decide) c1_ne (fun h5 => ?_) (fun h5 => ?_)
          · refine gp_gs dX3_runFrom_42 rfl ?_
            refine gp_iload_n dX3_runFrom_45 rfl ?_
            refine gp_pu (st' := .int (7) :: _) dX3_runFrom_46 rfl ?_
            refine gp_pu (st' := .int _ :: _) dX3_runFrom_48 rfl ?_
            refine gp_iload dX3_runFrom_49 rfl ?_
            refine gp_pu (st' := .int _ :: _) dX3_runFrom_51 rfl ?_
            refine gp_iacv (y := (10)) dX3_runFrom_52 rfl (by decide) (by decide) ?_
            refine gp_istore (ls' := [some (.ref _), some (.int _), some (.int _), some (.int _), some (.int _), some (.int _), some (.int _), none, none]) dX3_runFrom_53 rfl (Nat.le_of_ble_eq_true rfl) ?_
            refine gp_gs dX3_runFrom_55 rfl ?_
            refine gp_iload dX3_runFrom_58 rfl ?_
            refine gp_iacv (y := (-1)) dX3_runFrom_60 rfl (by decide) (by decide) ?_
            refine gp_istore (ls' := [some (.ref _), some (.int _), some (.int _), some (.int _), some (.int _), some (.int _), some (.int _), some (.int _), none]) dX3_runFrom_61 rfl (Nat.le_of_ble_eq_true rfl) ?_
            refine gp_iload dX3_runFrom_63 rfl ?_
            refine gp_pu (st' := .int (1) :: _) dX3_runFrom_65 rfl ?_
            refine gp_pu (st' := .int _ :: _) dX3_runFrom_66 rfl ?_
            refine gp_istore (ls' := [some (.ref _), some (.int _), some (.int _), some (.int _), some (.int _), some (.int _), some (.int _), some (.int _), some (.int _)]) dX3_runFrom_67 rfl (Nat.le_of_ble_eq_true rfl) ?_
            refine gp_aload_n dX3_runFrom_69 rfl ?_
            refine gp_iload dX3_runFrom_70 rfl ?_
            refine gp_callX (kind := 1) (args := [.ref _, .int _]) (rest := _) dX3_runFrom_72 (Or.inr (Or.inl ⟨rfl, rfl⟩)) mk_3_52 (by decide) me_18 rfl rfl rfl rfl rfl (mm_rc_of (by first | rfl | assumption | (simp only [*]; done))) (ct_note _ (by omega) h.1) ?_
            intro K2 hK2
            rw [hK2]
            have hm := h.nls [10]
            rw [show ([10] : List Int32).length = 1 from rfl] at hm
            refine gp_iload dX3_runFrom_75 rfl ?_
            refine gp_ls (t := 176) dX3_runFrom_77 (by decide) rfl ?_
            refine gp_iload_n dX3_runFrom_176 rfl ?_
            refine gp_aload_n dX3_runFrom_177 rfl ?_
            refine gp_giv dX3_runFrom_178 mf_3_22 (by decide) (by first | rfl | assumption | (simp only [*]; done)) (by first | exact hm.2.1 | exact hm.2.2.1 | exact hm.2.2.2 | exact rfl) ?_
            refine gp_pu (st' := .int _ :: _) dX3_runFrom_181 rfl ?_
            refine gp_iret dX3_runFrom_182 rfl ?_
            exact pX.mk rfl rfl
          · exact absurd (by decide) h5
        · exact absurd (by decide) h4

set_option maxHeartbeats 400000 in
theorem rn_1_0_0 (d : Nat) {m a x dd : Int32} {r : Nat} (h : mvs J 0 m a r) (hr : r + 2 ≤ 20) (hd : 0 ≤ dd.toInt ∧ dd.toInt + 1 ≤ 12) : cP (d + 4) 20 [.ref 71, .int 1, .int 0, .int x, .int dd] (mm_sh, mm_R, J, L) (pX (some (.int ((x + m) * 2))) L (fun K => K = nls J r [11, 10])) := by
  refine cP.of_gP (d := d + 3) me_20 ⟨Nat.le_of_ble_eq_true rfl, rfl⟩ ?_
  show gP mm_cs0 _ _ _ _ _ _ [some (.ref _), some (.int _), some (.int _), some (.int _), some (.int _), none, none, none, none] [] _ _
  refine gp_iload dX3_runFrom_0 rfl ?_
  refine gp_pu (st' := .int (12) :: _) dX3_runFrom_2 rfl ?_
  refine gp_icc (t := 23) dX3_runFrom_4 (by decide) c2_gt (fun h1 => ?_) (fun h1 => ?_)
  · exact absurd h1 (d_12 hd (by decide))
  · have h1' := Int32.not_lt.mp h1
    refine gp_iload_n dX3_runFrom_7 rfl ?_
    refine gp_ifc (t := 23) dX3_runFrom_8 (by decide) c1_lt (fun h2 => ?_) (fun h2 => ?_)
    · exact absurd h2 (by decide)
    · have h2' := Int32.not_lt.mp h2
      refine gp_iload_n dX3_runFrom_11 rfl ?_
      refine gp_pu (st' := .int (3) :: _) dX3_runFrom_12 rfl ?_
      refine gp_icc (t := 23) dX3_runFrom_13 (by decide) c2_ge (fun h3 => ?_) (fun h3 => ?_)
      · exact absurd h3 (by decide)
      · have h3' := Int32.not_le.mp h3
        refine gp_iload_n dX3_runFrom_16 rfl ?_
        refine gp_call (kind := 0) (args := [.int _]) (rest := _) dX3_runFrom_17 (Or.inl ⟨rfl, rfl⟩) mk_3_38 (by decide) me_102 rfl rfl rfl rfl rfl rfl (ok_X8_isKind _ _ _ _) rfl ?_
        refine gp_ifc (t := 25) dX3_runFrom_20 (by decide) c1_ne (fun h4 => ?_) (fun h4 => ?_)
        · refine gp_iload_n dX3_runFrom_25 rfl ?_
          refine gp_iload_n dX3_runFrom_26 rfl ?_
          refine gp_callX (kind := 0) (args := [.int _, .int _]) (rest := _) dX3_runFrom_27 (Or.inl ⟨rfl, rfl⟩) mk_3_48 (by decide) me_19 rfl rfl rfl rfl rfl rfl (hd_1_0 _) ?_
          intro K1 hK1
          rw [hK1]
          refine gp_istore (ls' := [some (.ref _), some (.int _), some (.int _), some (.int _), some (.int _), some (.int _), none, none, none]) dX3_runFrom_30 rfl (Nat.le_of_ble_eq_true rfl) ?_
          refine gp_iload dX3_runFrom_32 rfl ?_
          refine gp_call (kind := 0) (args := [.int _]) (rest := _) dX3_runFrom_34 (Or.inl ⟨rfl, rfl⟩) mk_3_38 (by decide) me_102 rfl rfl rfl rfl rfl rfl (ok_X8_isKind _ _ _ _) rfl ?_
          refine gp_ifc (t := 42) dX3_runFrom_37 (by decide) c1_ne (fun h5 => ?_) (fun h5 => ?_)
          · refine gp_gs dX3_runFrom_42 rfl ?_
            refine gp_iload_n dX3_runFrom_45 rfl ?_
            refine gp_pu (st' := .int (7) :: _) dX3_runFrom_46 rfl ?_
            refine gp_pu (st' := .int _ :: _) dX3_runFrom_48 rfl ?_
            refine gp_iload dX3_runFrom_49 rfl ?_
            refine gp_pu (st' := .int _ :: _) dX3_runFrom_51 rfl ?_
            refine gp_iacv (y := (11)) dX3_runFrom_52 rfl (by decide) (by decide) ?_
            refine gp_istore (ls' := [some (.ref _), some (.int _), some (.int _), some (.int _), some (.int _), some (.int _), some (.int _), none, none]) dX3_runFrom_53 rfl (Nat.le_of_ble_eq_true rfl) ?_
            refine gp_gs dX3_runFrom_55 rfl ?_
            refine gp_iload dX3_runFrom_58 rfl ?_
            refine gp_iacv (y := (-1)) dX3_runFrom_60 rfl (by decide) (by decide) ?_
            refine gp_istore (ls' := [some (.ref _), some (.int _), some (.int _), some (.int _), some (.int _), some (.int _), some (.int _), some (.int _), none]) dX3_runFrom_61 rfl (Nat.le_of_ble_eq_true rfl) ?_
            refine gp_iload dX3_runFrom_63 rfl ?_
            refine gp_pu (st' := .int (1) :: _) dX3_runFrom_65 rfl ?_
            refine gp_pu (st' := .int _ :: _) dX3_runFrom_66 rfl ?_
            refine gp_istore (ls' := [some (.ref _), some (.int _), some (.int _), some (.int _), some (.int _), some (.int _), some (.int _), some (.int _), some (.int _)]) dX3_runFrom_67 rfl (Nat.le_of_ble_eq_true rfl) ?_
            refine gp_aload_n dX3_runFrom_69 rfl ?_
            refine gp_iload dX3_runFrom_70 rfl ?_
            refine gp_callX (kind := 1) (args := [.ref _, .int _]) (rest := _) dX3_runFrom_72 (Or.inr (Or.inl ⟨rfl, rfl⟩)) mk_3_52 (by decide) me_18 rfl rfl rfl rfl rfl (mm_rc_of (by first | rfl | assumption | (simp only [*]; done))) (ct_note _ (by omega) h.1) ?_
            intro K2 hK2
            rw [hK2]
            have hm := h.nls [11]
            rw [show ([11] : List Int32).length = 1 from rfl] at hm
            refine gp_iload dX3_runFrom_75 rfl ?_
            refine gp_ls (t := 183) dX3_runFrom_77 (by decide) rfl ?_
            refine gp_aload_n dX3_runFrom_183 rfl ?_
            refine gp_pu (st' := .int (0) :: _) dX3_runFrom_184 rfl ?_
            refine gp_aload_n dX3_runFrom_185 rfl ?_
            refine gp_giv dX3_runFrom_186 mf_3_21 (by decide) (by first | rfl | assumption | (simp only [*]; done)) (by first | exact hm.2.1 | exact hm.2.2.1 | exact hm.2.2.2 | exact rfl) ?_
            refine gp_iload_n dX3_runFrom_189 rfl ?_
            refine gp_iload dX3_runFrom_190 rfl ?_
            refine gp_callX (kind := 0) (args := [.ref _, .int _, .int _, .int _, .int _]) (rest := _) dX3_runFrom_192 (Or.inl ⟨rfl, rfl⟩) mk_3_31 (by decide) me_20 rfl rfl rfl rfl rfl rfl (rn_0_0 _ hm (by omega) (d_inc hd (by decide) (by decide))) ?_
            intro K3 hK3
            rw [hK3]
            refine gp_pu (st' := .int (2) :: _) dX3_runFrom_195 rfl ?_
            refine gp_pu (st' := .int _ :: _) dX3_runFrom_196 rfl ?_
            refine gp_iret dX3_runFrom_197 rfl ?_
            exact pX.mk rfl (nls_app [11] J r [10])
          · exact absurd (by decide) h5
        · exact absurd (by decide) h4

set_option maxHeartbeats 400000 in
theorem rn_2_0_0 (d : Nat) {m a x dd : Int32} {r : Nat} (h : mvs J 0 m a r) (hr : r + 4 ≤ 20) (hd : 0 ≤ dd.toInt ∧ dd.toInt + 2 ≤ 12) : cP (d + 5) 20 [.ref 71, .int 2, .int 0, .int x, .int dd] (mm_sh, mm_R, J, L) (pX (some (.int (((x + m) * 2) ^^^ ((x - a) + m)))) L (fun K => K = nls J r [12, 11, 10, 10])) := by
  refine cP.of_gP (d := d + 4) me_20 ⟨Nat.le_of_ble_eq_true rfl, rfl⟩ ?_
  show gP mm_cs0 _ _ _ _ _ _ [some (.ref _), some (.int _), some (.int _), some (.int _), some (.int _), none, none, none, none] [] _ _
  refine gp_iload dX3_runFrom_0 rfl ?_
  refine gp_pu (st' := .int (12) :: _) dX3_runFrom_2 rfl ?_
  refine gp_icc (t := 23) dX3_runFrom_4 (by decide) c2_gt (fun h1 => ?_) (fun h1 => ?_)
  · exact absurd h1 (d_12 hd (by decide))
  · have h1' := Int32.not_lt.mp h1
    refine gp_iload_n dX3_runFrom_7 rfl ?_
    refine gp_ifc (t := 23) dX3_runFrom_8 (by decide) c1_lt (fun h2 => ?_) (fun h2 => ?_)
    · exact absurd h2 (by decide)
    · have h2' := Int32.not_lt.mp h2
      refine gp_iload_n dX3_runFrom_11 rfl ?_
      refine gp_pu (st' := .int (3) :: _) dX3_runFrom_12 rfl ?_
      refine gp_icc (t := 23) dX3_runFrom_13 (by decide) c2_ge (fun h3 => ?_) (fun h3 => ?_)
      · exact absurd h3 (by decide)
      · have h3' := Int32.not_le.mp h3
        refine gp_iload_n dX3_runFrom_16 rfl ?_
        refine gp_call (kind := 0) (args := [.int _]) (rest := _) dX3_runFrom_17 (Or.inl ⟨rfl, rfl⟩) mk_3_38 (by decide) me_102 rfl rfl rfl rfl rfl rfl (ok_X8_isKind _ _ _ _) rfl ?_
        refine gp_ifc (t := 25) dX3_runFrom_20 (by decide) c1_ne (fun h4 => ?_) (fun h4 => ?_)
        · refine gp_iload_n dX3_runFrom_25 rfl ?_
          refine gp_iload_n dX3_runFrom_26 rfl ?_
          refine gp_callX (kind := 0) (args := [.int _, .int _]) (rest := _) dX3_runFrom_27 (Or.inl ⟨rfl, rfl⟩) mk_3_48 (by decide) me_19 rfl rfl rfl rfl rfl rfl (hd_2_0 _) ?_
          intro K1 hK1
          rw [hK1]
          refine gp_istore (ls' := [some (.ref _), some (.int _), some (.int _), some (.int _), some (.int _), some (.int _), none, none, none]) dX3_runFrom_30 rfl (Nat.le_of_ble_eq_true rfl) ?_
          refine gp_iload dX3_runFrom_32 rfl ?_
          refine gp_call (kind := 0) (args := [.int _]) (rest := _) dX3_runFrom_34 (Or.inl ⟨rfl, rfl⟩) mk_3_38 (by decide) me_102 rfl rfl rfl rfl rfl rfl (ok_X8_isKind _ _ _ _) rfl ?_
          refine gp_ifc (t := 42) dX3_runFrom_37 (by decide) c1_ne (fun h5 => ?_) (fun h5 => ?_)
          · refine gp_gs dX3_runFrom_42 rfl ?_
            refine gp_iload_n dX3_runFrom_45 rfl ?_
            refine gp_pu (st' := .int (7) :: _) dX3_runFrom_46 rfl ?_
            refine gp_pu (st' := .int _ :: _) dX3_runFrom_48 rfl ?_
            refine gp_iload dX3_runFrom_49 rfl ?_
            refine gp_pu (st' := .int _ :: _) dX3_runFrom_51 rfl ?_
            refine gp_iacv (y := (12)) dX3_runFrom_52 rfl (by decide) (by decide) ?_
            refine gp_istore (ls' := [some (.ref _), some (.int _), some (.int _), some (.int _), some (.int _), some (.int _), some (.int _), none, none]) dX3_runFrom_53 rfl (Nat.le_of_ble_eq_true rfl) ?_
            refine gp_gs dX3_runFrom_55 rfl ?_
            refine gp_iload dX3_runFrom_58 rfl ?_
            refine gp_iacv (y := (-1)) dX3_runFrom_60 rfl (by decide) (by decide) ?_
            refine gp_istore (ls' := [some (.ref _), some (.int _), some (.int _), some (.int _), some (.int _), some (.int _), some (.int _), some (.int _), none]) dX3_runFrom_61 rfl (Nat.le_of_ble_eq_true rfl) ?_
            refine gp_iload dX3_runFrom_63 rfl ?_
            refine gp_pu (st' := .int (1) :: _) dX3_runFrom_65 rfl ?_
            refine gp_pu (st' := .int _ :: _) dX3_runFrom_66 rfl ?_
            refine gp_istore (ls' := [some (.ref _), some (.int _), some (.int _), some (.int _), some (.int _), some (.int _), some (.int _), some (.int _), some (.int _)]) dX3_runFrom_67 rfl (Nat.le_of_ble_eq_true rfl) ?_
            refine gp_aload_n dX3_runFrom_69 rfl ?_
            refine gp_iload dX3_runFrom_70 rfl ?_
            refine gp_callX (kind := 1) (args := [.ref _, .int _]) (rest := _) dX3_runFrom_72 (Or.inr (Or.inl ⟨rfl, rfl⟩)) mk_3_52 (by decide) me_18 rfl rfl rfl rfl rfl (mm_rc_of (by first | rfl | assumption | (simp only [*]; done))) (ct_note _ (by omega) h.1) ?_
            intro K2 hK2
            rw [hK2]
            have hm := h.nls [12]
            rw [show ([12] : List Int32).length = 1 from rfl] at hm
            refine gp_iload dX3_runFrom_75 rfl ?_
            refine gp_ls (t := 198) dX3_runFrom_77 (by decide) rfl ?_
            refine gp_aload_n dX3_runFrom_198 rfl ?_
            refine gp_pu (st' := .int (1) :: _) dX3_runFrom_199 rfl ?_
            refine gp_aload_n dX3_runFrom_200 rfl ?_
            refine gp_giv dX3_runFrom_201 mf_3_21 (by decide) (by first | rfl | assumption | (simp only [*]; done)) (by first | exact hm.2.1 | exact hm.2.2.1 | exact hm.2.2.2 | exact rfl) ?_
            refine gp_iload_n dX3_runFrom_204 rfl ?_
            refine gp_iload dX3_runFrom_205 rfl ?_
            refine gp_callX (kind := 0) (args := [.ref _, .int _, .int _, .int _, .int _]) (rest := _) dX3_runFrom_207 (Or.inl ⟨rfl, rfl⟩) mk_3_31 (by decide) me_20 rfl rfl rfl rfl rfl rfl (rn_1_0_0 _ hm (by omega) (d_inc hd (by decide) (by decide))) ?_
            intro K3 hK3
            rw [hK3]
            have hm2 := hm.nls [11, 10]
            rw [show ([11, 10] : List Int32).length = 2 from rfl] at hm2
            refine gp_aload_n dX3_runFrom_210 rfl ?_
            refine gp_pu (st' := .int (0) :: _) dX3_runFrom_211 rfl ?_
            refine gp_aload_n dX3_runFrom_212 rfl ?_
            refine gp_giv dX3_runFrom_213 mf_3_21 (by decide) (by first | rfl | assumption | (simp only [*]; done)) (by first | exact hm2.2.1 | exact hm2.2.2.1 | exact hm2.2.2.2 | exact hm.2.1 | exact hm.2.2.1 | exact hm.2.2.2 | exact rfl) ?_
            refine gp_iload_n dX3_runFrom_216 rfl ?_
            refine gp_aload_n dX3_runFrom_217 rfl ?_
            refine gp_giv dX3_runFrom_218 mf_3_28 (by decide) (by first | rfl | assumption | (simp only [*]; done)) (by first | exact hm2.2.1 | exact hm2.2.2.1 | exact hm2.2.2.2 | exact hm.2.1 | exact hm.2.2.1 | exact hm.2.2.2 | exact rfl) ?_
            refine gp_pu (st' := .int _ :: _) dX3_runFrom_221 rfl ?_
            refine gp_iload dX3_runFrom_222 rfl ?_
            refine gp_callX (kind := 0) (args := [.ref _, .int _, .int _, .int _, .int _]) (rest := _) dX3_runFrom_224 (Or.inl ⟨rfl, rfl⟩) mk_3_31 (by decide) me_20 rfl rfl rfl rfl rfl rfl (rn_0_0 _ hm2 (by omega) (d_inc hd (by decide) (by decide))) ?_
            intro K4 hK4
            rw [hK4]
            refine gp_pu (st' := .int _ :: _) dX3_runFrom_227 rfl ?_
            refine gp_iret dX3_runFrom_228 rfl ?_
            (refine pX.mk rfl ?_
             have q1 := nls_app [12] J r [11, 10]
             have q2 := nls_app ([12] ++ [11, 10]) J r [10]
             rw [← q1] at q2
             rw [show ([12] ++ [11, 10] : List Int32).length = 3 from rfl, show ([12] : List Int32).length = 1 from rfl] at q2
             exact q2)
          · exact absurd (by decide) h5
        · exact absurd (by decide) h4

set_option maxHeartbeats 400000 in
theorem rn_0_1 (d : Nat) {m a x dd : Int32} {k0 : Int32} {r : Nat} (h : mvs J k0 m a r) (hr : r + 2 ≤ 20) (hd : 0 ≤ dd.toInt ∧ dd.toInt + 1 ≤ 12) : cP (d + 4) 20 [.ref 71, .int 0, .int 1, .int x, .int dd] (mm_sh, mm_R, J, L) (pX (some (.int ((x + m) + a))) L (fun K => K = nls J r [20, 10])) := by
  refine cP.of_gP (d := d + 3) me_20 ⟨Nat.le_of_ble_eq_true rfl, rfl⟩ ?_
  show gP mm_cs0 _ _ _ _ _ _ [some (.ref _), some (.int _), some (.int _), some (.int _), some (.int _), none, none, none, none] [] _ _
  refine gp_iload dX3_runFrom_0 rfl ?_
  refine gp_pu (st' := .int (12) :: _) dX3_runFrom_2 rfl ?_
  refine gp_icc (t := 23) dX3_runFrom_4 (by decide) c2_gt (fun h1 => ?_) (fun h1 => ?_)
  · exact absurd h1 (d_12 hd (by decide))
  · have h1' := Int32.not_lt.mp h1
    refine gp_iload_n dX3_runFrom_7 rfl ?_
    refine gp_ifc (t := 23) dX3_runFrom_8 (by decide) c1_lt (fun h2 => ?_) (fun h2 => ?_)
    · exact absurd h2 (by decide)
    · have h2' := Int32.not_lt.mp h2
      refine gp_iload_n dX3_runFrom_11 rfl ?_
      refine gp_pu (st' := .int (3) :: _) dX3_runFrom_12 rfl ?_
      refine gp_icc (t := 23) dX3_runFrom_13 (by decide) c2_ge (fun h3 => ?_) (fun h3 => ?_)
      · exact absurd h3 (by decide)
      · have h3' := Int32.not_le.mp h3
        refine gp_iload_n dX3_runFrom_16 rfl ?_
        refine gp_call (kind := 0) (args := [.int _]) (rest := _) dX3_runFrom_17 (Or.inl ⟨rfl, rfl⟩) mk_3_38 (by decide) me_102 rfl rfl rfl rfl rfl rfl (ok_X8_isKind _ _ _ _) rfl ?_
        refine gp_ifc (t := 25) dX3_runFrom_20 (by decide) c1_ne (fun h4 => ?_) (fun h4 => ?_)
        · refine gp_iload_n dX3_runFrom_25 rfl ?_
          refine gp_iload_n dX3_runFrom_26 rfl ?_
          refine gp_callX (kind := 0) (args := [.int _, .int _]) (rest := _) dX3_runFrom_27 (Or.inl ⟨rfl, rfl⟩) mk_3_48 (by decide) me_19 rfl rfl rfl rfl rfl rfl (hd_0_1 _) ?_
          intro K1 hK1
          rw [hK1]
          refine gp_istore (ls' := [some (.ref _), some (.int _), some (.int _), some (.int _), some (.int _), some (.int _), none, none, none]) dX3_runFrom_30 rfl (Nat.le_of_ble_eq_true rfl) ?_
          refine gp_iload dX3_runFrom_32 rfl ?_
          refine gp_call (kind := 0) (args := [.int _]) (rest := _) dX3_runFrom_34 (Or.inl ⟨rfl, rfl⟩) mk_3_38 (by decide) me_102 rfl rfl rfl rfl rfl rfl (ok_X8_isKind _ _ _ _) rfl ?_
          refine gp_ifc (t := 42) dX3_runFrom_37 (by decide) c1_ne (fun h5 => ?_) (fun h5 => ?_)
          · refine gp_gs dX3_runFrom_42 rfl ?_
            refine gp_iload_n dX3_runFrom_45 rfl ?_
            refine gp_pu (st' := .int (7) :: _) dX3_runFrom_46 rfl ?_
            refine gp_pu (st' := .int _ :: _) dX3_runFrom_48 rfl ?_
            refine gp_iload dX3_runFrom_49 rfl ?_
            refine gp_pu (st' := .int _ :: _) dX3_runFrom_51 rfl ?_
            refine gp_iacv (y := (20)) dX3_runFrom_52 rfl (by decide) (by decide) ?_
            refine gp_istore (ls' := [some (.ref _), some (.int _), some (.int _), some (.int _), some (.int _), some (.int _), some (.int _), none, none]) dX3_runFrom_53 rfl (Nat.le_of_ble_eq_true rfl) ?_
            refine gp_gs dX3_runFrom_55 rfl ?_
            refine gp_iload dX3_runFrom_58 rfl ?_
            refine gp_iacv (y := (0)) dX3_runFrom_60 rfl (by decide) (by decide) ?_
            refine gp_istore (ls' := [some (.ref _), some (.int _), some (.int _), some (.int _), some (.int _), some (.int _), some (.int _), some (.int _), none]) dX3_runFrom_61 rfl (Nat.le_of_ble_eq_true rfl) ?_
            refine gp_iload dX3_runFrom_63 rfl ?_
            refine gp_pu (st' := .int (1) :: _) dX3_runFrom_65 rfl ?_
            refine gp_pu (st' := .int _ :: _) dX3_runFrom_66 rfl ?_
            refine gp_istore (ls' := [some (.ref _), some (.int _), some (.int _), some (.int _), some (.int _), some (.int _), some (.int _), some (.int _), some (.int _)]) dX3_runFrom_67 rfl (Nat.le_of_ble_eq_true rfl) ?_
            refine gp_aload_n dX3_runFrom_69 rfl ?_
            refine gp_iload dX3_runFrom_70 rfl ?_
            refine gp_callX (kind := 1) (args := [.ref _, .int _]) (rest := _) dX3_runFrom_72 (Or.inr (Or.inl ⟨rfl, rfl⟩)) mk_3_52 (by decide) me_18 rfl rfl rfl rfl rfl (mm_rc_of (by first | rfl | assumption | (simp only [*]; done))) (ct_note _ (by omega) h.1) ?_
            intro K2 hK2
            rw [hK2]
            have hm := h.nls [20]
            rw [show ([20] : List Int32).length = 1 from rfl] at hm
            refine gp_iload dX3_runFrom_75 rfl ?_
            refine gp_ls (t := 229) dX3_runFrom_77 (by decide) rfl ?_
            refine gp_aload_n dX3_runFrom_229 rfl ?_
            refine gp_pu (st' := .int (0) :: _) dX3_runFrom_230 rfl ?_
            refine gp_iload dX3_runFrom_231 rfl ?_
            refine gp_iload_n dX3_runFrom_233 rfl ?_
            refine gp_iload dX3_runFrom_234 rfl ?_
            refine gp_callX (kind := 0) (args := [.ref _, .int _, .int _, .int _, .int _]) (rest := _) dX3_runFrom_236 (Or.inl ⟨rfl, rfl⟩) mk_3_31 (by decide) me_20 rfl rfl rfl rfl rfl rfl (rn_0_0 _ hm (by omega) (d_inc hd (by decide) (by decide))) ?_
            intro K3 hK3
            rw [hK3]
            refine gp_aload_n dX3_runFrom_239 rfl ?_
            refine gp_giv dX3_runFrom_240 mf_3_28 (by decide) (by first | rfl | assumption | (simp only [*]; done)) (by first | exact hm.2.1 | exact hm.2.2.1 | exact hm.2.2.2 | exact rfl) ?_
            refine gp_pu (st' := .int _ :: _) dX3_runFrom_243 rfl ?_
            refine gp_iret dX3_runFrom_244 rfl ?_
            exact pX.mk rfl (nls_app [20] J r [10])
          · exact absurd (by decide) h5
        · exact absurd (by decide) h4

set_option maxHeartbeats 400000 in
theorem rn_1_1_1 (d : Nat) {m a x dd : Int32} {r : Nat} (h : mvs J 1 m a r) (hr : r + 3 ≤ 20) (hd : 0 ≤ dd.toInt ∧ dd.toInt + 2 ≤ 12) : cP (d + 5) 20 [.ref 71, .int 1, .int 1, .int x, .int dd] (mm_sh, mm_R, J, L) (pX (some (.int (((x + m) + a) * 2))) L (fun K => K = nls J r [11, 20, 10])) := by
  refine cP.of_gP (d := d + 4) me_20 ⟨Nat.le_of_ble_eq_true rfl, rfl⟩ ?_
  show gP mm_cs0 _ _ _ _ _ _ [some (.ref _), some (.int _), some (.int _), some (.int _), some (.int _), none, none, none, none] [] _ _
  refine gp_iload dX3_runFrom_0 rfl ?_
  refine gp_pu (st' := .int (12) :: _) dX3_runFrom_2 rfl ?_
  refine gp_icc (t := 23) dX3_runFrom_4 (by decide) c2_gt (fun h1 => ?_) (fun h1 => ?_)
  · exact absurd h1 (d_12 hd (by decide))
  · have h1' := Int32.not_lt.mp h1
    refine gp_iload_n dX3_runFrom_7 rfl ?_
    refine gp_ifc (t := 23) dX3_runFrom_8 (by decide) c1_lt (fun h2 => ?_) (fun h2 => ?_)
    · exact absurd h2 (by decide)
    · have h2' := Int32.not_lt.mp h2
      refine gp_iload_n dX3_runFrom_11 rfl ?_
      refine gp_pu (st' := .int (3) :: _) dX3_runFrom_12 rfl ?_
      refine gp_icc (t := 23) dX3_runFrom_13 (by decide) c2_ge (fun h3 => ?_) (fun h3 => ?_)
      · exact absurd h3 (by decide)
      · have h3' := Int32.not_le.mp h3
        refine gp_iload_n dX3_runFrom_16 rfl ?_
        refine gp_call (kind := 0) (args := [.int _]) (rest := _) dX3_runFrom_17 (Or.inl ⟨rfl, rfl⟩) mk_3_38 (by decide) me_102 rfl rfl rfl rfl rfl rfl (ok_X8_isKind _ _ _ _) rfl ?_
        refine gp_ifc (t := 25) dX3_runFrom_20 (by decide) c1_ne (fun h4 => ?_) (fun h4 => ?_)
        · refine gp_iload_n dX3_runFrom_25 rfl ?_
          refine gp_iload_n dX3_runFrom_26 rfl ?_
          refine gp_callX (kind := 0) (args := [.int _, .int _]) (rest := _) dX3_runFrom_27 (Or.inl ⟨rfl, rfl⟩) mk_3_48 (by decide) me_19 rfl rfl rfl rfl rfl rfl (hd_1_1 _) ?_
          intro K1 hK1
          rw [hK1]
          refine gp_istore (ls' := [some (.ref _), some (.int _), some (.int _), some (.int _), some (.int _), some (.int _), none, none, none]) dX3_runFrom_30 rfl (Nat.le_of_ble_eq_true rfl) ?_
          refine gp_iload dX3_runFrom_32 rfl ?_
          refine gp_call (kind := 0) (args := [.int _]) (rest := _) dX3_runFrom_34 (Or.inl ⟨rfl, rfl⟩) mk_3_38 (by decide) me_102 rfl rfl rfl rfl rfl rfl (ok_X8_isKind _ _ _ _) rfl ?_
          refine gp_ifc (t := 42) dX3_runFrom_37 (by decide) c1_ne (fun h5 => ?_) (fun h5 => ?_)
          · refine gp_gs dX3_runFrom_42 rfl ?_
            refine gp_iload_n dX3_runFrom_45 rfl ?_
            refine gp_pu (st' := .int (7) :: _) dX3_runFrom_46 rfl ?_
            refine gp_pu (st' := .int _ :: _) dX3_runFrom_48 rfl ?_
            refine gp_iload dX3_runFrom_49 rfl ?_
            refine gp_pu (st' := .int _ :: _) dX3_runFrom_51 rfl ?_
            refine gp_iacv (y := (11)) dX3_runFrom_52 rfl (by decide) (by decide) ?_
            refine gp_istore (ls' := [some (.ref _), some (.int _), some (.int _), some (.int _), some (.int _), some (.int _), some (.int _), none, none]) dX3_runFrom_53 rfl (Nat.le_of_ble_eq_true rfl) ?_
            refine gp_gs dX3_runFrom_55 rfl ?_
            refine gp_iload dX3_runFrom_58 rfl ?_
            refine gp_iacv (y := (-1)) dX3_runFrom_60 rfl (by decide) (by decide) ?_
            refine gp_istore (ls' := [some (.ref _), some (.int _), some (.int _), some (.int _), some (.int _), some (.int _), some (.int _), some (.int _), none]) dX3_runFrom_61 rfl (Nat.le_of_ble_eq_true rfl) ?_
            refine gp_iload dX3_runFrom_63 rfl ?_
            refine gp_pu (st' := .int (1) :: _) dX3_runFrom_65 rfl ?_
            refine gp_pu (st' := .int _ :: _) dX3_runFrom_66 rfl ?_
            refine gp_istore (ls' := [some (.ref _), some (.int _), some (.int _), some (.int _), some (.int _), some (.int _), some (.int _), some (.int _), some (.int _)]) dX3_runFrom_67 rfl (Nat.le_of_ble_eq_true rfl) ?_
            refine gp_aload_n dX3_runFrom_69 rfl ?_
            refine gp_iload dX3_runFrom_70 rfl ?_
            refine gp_callX (kind := 1) (args := [.ref _, .int _]) (rest := _) dX3_runFrom_72 (Or.inr (Or.inl ⟨rfl, rfl⟩)) mk_3_52 (by decide) me_18 rfl rfl rfl rfl rfl (mm_rc_of (by first | rfl | assumption | (simp only [*]; done))) (ct_note _ (by omega) h.1) ?_
            intro K2 hK2
            rw [hK2]
            have hm := h.nls [11]
            rw [show ([11] : List Int32).length = 1 from rfl] at hm
            refine gp_iload dX3_runFrom_75 rfl ?_
            refine gp_ls (t := 183) dX3_runFrom_77 (by decide) rfl ?_
            refine gp_aload_n dX3_runFrom_183 rfl ?_
            refine gp_pu (st' := .int (0) :: _) dX3_runFrom_184 rfl ?_
            refine gp_aload_n dX3_runFrom_185 rfl ?_
            refine gp_giv dX3_runFrom_186 mf_3_21 (by decide) (by first | rfl | assumption | (simp only [*]; done)) (by first | exact hm.2.1 | exact hm.2.2.1 | exact hm.2.2.2 | exact rfl) ?_
            refine gp_iload_n dX3_runFrom_189 rfl ?_
            refine gp_iload dX3_runFrom_190 rfl ?_
            refine gp_callX (kind := 0) (args := [.ref _, .int _, .int _, .int _, .int _]) (rest := _) dX3_runFrom_192 (Or.inl ⟨rfl, rfl⟩) mk_3_31 (by decide) me_20 rfl rfl rfl rfl rfl rfl (rn_0_1 _ hm (by omega) (d_inc hd (by decide) (by decide))) ?_
            intro K3 hK3
            rw [hK3]
            refine gp_pu (st' := .int (2) :: _) dX3_runFrom_195 rfl ?_
            refine gp_pu (st' := .int _ :: _) dX3_runFrom_196 rfl ?_
            refine gp_iret dX3_runFrom_197 rfl ?_
            exact pX.mk rfl (nls_app [11] J r [20, 10])
          · exact absurd (by decide) h5
        · exact absurd (by decide) h4

set_option maxHeartbeats 400000 in
theorem rn_2_1_1 (d : Nat) {m a x dd : Int32} {r : Nat} (h : mvs J 1 m a r) (hr : r + 6 ≤ 20) (hd : 0 ≤ dd.toInt ∧ dd.toInt + 3 ≤ 12) : cP (d + 6) 20 [.ref 71, .int 2, .int 1, .int x, .int dd] (mm_sh, mm_R, J, L) (pX (some (.int ((((x + m) + a) * 2) ^^^ (((x - a) + m) + a)))) L (fun K => K = nls J r [12, 11, 20, 10, 20, 10])) := by
  refine cP.of_gP (d := d + 5) me_20 ⟨Nat.le_of_ble_eq_true rfl, rfl⟩ ?_
  show gP mm_cs0 _ _ _ _ _ _ [some (.ref _), some (.int _), some (.int _), some (.int _), some (.int _), none, none, none, none] [] _ _
  refine gp_iload dX3_runFrom_0 rfl ?_
  refine gp_pu (st' := .int (12) :: _) dX3_runFrom_2 rfl ?_
  refine gp_icc (t := 23) dX3_runFrom_4 (by decide) c2_gt (fun h1 => ?_) (fun h1 => ?_)
  · exact absurd h1 (d_12 hd (by decide))
  · have h1' := Int32.not_lt.mp h1
    refine gp_iload_n dX3_runFrom_7 rfl ?_
    refine gp_ifc (t := 23) dX3_runFrom_8 (by decide) c1_lt (fun h2 => ?_) (fun h2 => ?_)
    · exact absurd h2 (by decide)
    · have h2' := Int32.not_lt.mp h2
      refine gp_iload_n dX3_runFrom_11 rfl ?_
      refine gp_pu (st' := .int (3) :: _) dX3_runFrom_12 rfl ?_
      refine gp_icc (t := 23) dX3_runFrom_13 (by decide) c2_ge (fun h3 => ?_) (fun h3 => ?_)
      · exact absurd h3 (by decide)
      · have h3' := Int32.not_le.mp h3
        refine gp_iload_n dX3_runFrom_16 rfl ?_
        refine gp_call (kind := 0) (args := [.int _]) (rest := _) dX3_runFrom_17 (Or.inl ⟨rfl, rfl⟩) mk_3_38 (by decide) me_102 rfl rfl rfl rfl rfl rfl (ok_X8_isKind _ _ _ _) rfl ?_
        refine gp_ifc (t := 25) dX3_runFrom_20 (by decide) c1_ne (fun h4 => ?_) (fun h4 => ?_)
        · refine gp_iload_n dX3_runFrom_25 rfl ?_
          refine gp_iload_n dX3_runFrom_26 rfl ?_
          refine gp_callX (kind := 0) (args := [.int _, .int _]) (rest := _) dX3_runFrom_27 (Or.inl ⟨rfl, rfl⟩) mk_3_48 (by decide) me_19 rfl rfl rfl rfl rfl rfl (hd_2_1 _) ?_
          intro K1 hK1
          rw [hK1]
          refine gp_istore (ls' := [some (.ref _), some (.int _), some (.int _), some (.int _), some (.int _), some (.int _), none, none, none]) dX3_runFrom_30 rfl (Nat.le_of_ble_eq_true rfl) ?_
          refine gp_iload dX3_runFrom_32 rfl ?_
          refine gp_call (kind := 0) (args := [.int _]) (rest := _) dX3_runFrom_34 (Or.inl ⟨rfl, rfl⟩) mk_3_38 (by decide) me_102 rfl rfl rfl rfl rfl rfl (ok_X8_isKind _ _ _ _) rfl ?_
          refine gp_ifc (t := 42) dX3_runFrom_37 (by decide) c1_ne (fun h5 => ?_) (fun h5 => ?_)
          · refine gp_gs dX3_runFrom_42 rfl ?_
            refine gp_iload_n dX3_runFrom_45 rfl ?_
            refine gp_pu (st' := .int (7) :: _) dX3_runFrom_46 rfl ?_
            refine gp_pu (st' := .int _ :: _) dX3_runFrom_48 rfl ?_
            refine gp_iload dX3_runFrom_49 rfl ?_
            refine gp_pu (st' := .int _ :: _) dX3_runFrom_51 rfl ?_
            refine gp_iacv (y := (12)) dX3_runFrom_52 rfl (by decide) (by decide) ?_
            refine gp_istore (ls' := [some (.ref _), some (.int _), some (.int _), some (.int _), some (.int _), some (.int _), some (.int _), none, none]) dX3_runFrom_53 rfl (Nat.le_of_ble_eq_true rfl) ?_
            refine gp_gs dX3_runFrom_55 rfl ?_
            refine gp_iload dX3_runFrom_58 rfl ?_
            refine gp_iacv (y := (-1)) dX3_runFrom_60 rfl (by decide) (by decide) ?_
            refine gp_istore (ls' := [some (.ref _), some (.int _), some (.int _), some (.int _), some (.int _), some (.int _), some (.int _), some (.int _), none]) dX3_runFrom_61 rfl (Nat.le_of_ble_eq_true rfl) ?_
            refine gp_iload dX3_runFrom_63 rfl ?_
            refine gp_pu (st' := .int (1) :: _) dX3_runFrom_65 rfl ?_
            refine gp_pu (st' := .int _ :: _) dX3_runFrom_66 rfl ?_
            refine gp_istore (ls' := [some (.ref _), some (.int _), some (.int _), some (.int _), some (.int _), some (.int _), some (.int _), some (.int _), some (.int _)]) dX3_runFrom_67 rfl (Nat.le_of_ble_eq_true rfl) ?_
            refine gp_aload_n dX3_runFrom_69 rfl ?_
            refine gp_iload dX3_runFrom_70 rfl ?_
            refine gp_callX (kind := 1) (args := [.ref _, .int _]) (rest := _) dX3_runFrom_72 (Or.inr (Or.inl ⟨rfl, rfl⟩)) mk_3_52 (by decide) me_18 rfl rfl rfl rfl rfl (mm_rc_of (by first | rfl | assumption | (simp only [*]; done))) (ct_note _ (by omega) h.1) ?_
            intro K2 hK2
            rw [hK2]
            have hm := h.nls [12]
            rw [show ([12] : List Int32).length = 1 from rfl] at hm
            refine gp_iload dX3_runFrom_75 rfl ?_
            refine gp_ls (t := 198) dX3_runFrom_77 (by decide) rfl ?_
            refine gp_aload_n dX3_runFrom_198 rfl ?_
            refine gp_pu (st' := .int (1) :: _) dX3_runFrom_199 rfl ?_
            refine gp_aload_n dX3_runFrom_200 rfl ?_
            refine gp_giv dX3_runFrom_201 mf_3_21 (by decide) (by first | rfl | assumption | (simp only [*]; done)) (by first | exact hm.2.1 | exact hm.2.2.1 | exact hm.2.2.2 | exact rfl) ?_
            refine gp_iload_n dX3_runFrom_204 rfl ?_
            refine gp_iload dX3_runFrom_205 rfl ?_
            refine gp_callX (kind := 0) (args := [.ref _, .int _, .int _, .int _, .int _]) (rest := _) dX3_runFrom_207 (Or.inl ⟨rfl, rfl⟩) mk_3_31 (by decide) me_20 rfl rfl rfl rfl rfl rfl (rn_1_1_1 _ hm (by omega) (d_inc hd (by decide) (by decide))) ?_
            intro K3 hK3
            rw [hK3]
            have hm2 := hm.nls [11, 20, 10]
            rw [show ([11, 20, 10] : List Int32).length = 3 from rfl] at hm2
            refine gp_aload_n dX3_runFrom_210 rfl ?_
            refine gp_pu (st' := .int (0) :: _) dX3_runFrom_211 rfl ?_
            refine gp_aload_n dX3_runFrom_212 rfl ?_
            refine gp_giv dX3_runFrom_213 mf_3_21 (by decide) (by first | rfl | assumption | (simp only [*]; done)) (by first | exact hm2.2.1 | exact hm2.2.2.1 | exact hm2.2.2.2 | exact hm.2.1 | exact hm.2.2.1 | exact hm.2.2.2 | exact rfl) ?_
            refine gp_iload_n dX3_runFrom_216 rfl ?_
            refine gp_aload_n dX3_runFrom_217 rfl ?_
            refine gp_giv dX3_runFrom_218 mf_3_28 (by decide) (by first | rfl | assumption | (simp only [*]; done)) (by first | exact hm2.2.1 | exact hm2.2.2.1 | exact hm2.2.2.2 | exact hm.2.1 | exact hm.2.2.1 | exact hm.2.2.2 | exact rfl) ?_
            refine gp_pu (st' := .int _ :: _) dX3_runFrom_221 rfl ?_
            refine gp_iload dX3_runFrom_222 rfl ?_
            refine gp_callX (kind := 0) (args := [.ref _, .int _, .int _, .int _, .int _]) (rest := _) dX3_runFrom_224 (Or.inl ⟨rfl, rfl⟩) mk_3_31 (by decide) me_20 rfl rfl rfl rfl rfl rfl (rn_0_1 _ hm2 (by omega) (d_inc hd (by decide) (by decide))) ?_
            intro K4 hK4
            rw [hK4]
            refine gp_pu (st' := .int _ :: _) dX3_runFrom_227 rfl ?_
            refine gp_iret dX3_runFrom_228 rfl ?_
            (refine pX.mk rfl ?_
             have q1 := nls_app [12] J r [11, 20, 10]
             have q2 := nls_app ([12] ++ [11, 20, 10]) J r [20, 10]
             rw [← q1] at q2
             rw [show ([12] ++ [11, 20, 10] : List Int32).length = 4 from rfl, show ([12] : List Int32).length = 1 from rfl] at q2
             exact q2)
          · exact absurd (by decide) h5
        · exact absurd (by decide) h4

set_option maxHeartbeats 400000 in
theorem rn_0_2 (d : Nat) {m a x dd : Int32} {k0 : Int32} {r : Nat} (h : mvs J k0 m a r) (hr : r + 1 ≤ 20) (hd : 0 ≤ dd.toInt ∧ dd.toInt + 0 ≤ 12) : cP (d + 3) 20 [.ref 71, .int 0, .int 2, .int x, .int dd] (mm_sh, mm_R, J, L) (pX (some (.int (x + m))) L (fun K => K = nls J r [10])) := by
  refine cP.of_gP (d := d + 2) me_20 ⟨Nat.le_of_ble_eq_true rfl, rfl⟩ ?_
  show gP mm_cs0 _ _ _ _ _ _ [some (.ref _), some (.int _), some (.int _), some (.int _), some (.int _), none, none, none, none] [] _ _
  refine gp_iload dX3_runFrom_0 rfl ?_
  refine gp_pu (st' := .int (12) :: _) dX3_runFrom_2 rfl ?_
  refine gp_icc (t := 23) dX3_runFrom_4 (by decide) c2_gt (fun h1 => ?_) (fun h1 => ?_)
  · exact absurd h1 (d_12 hd (by decide))
  · have h1' := Int32.not_lt.mp h1
    refine gp_iload_n dX3_runFrom_7 rfl ?_
    refine gp_ifc (t := 23) dX3_runFrom_8 (by decide) c1_lt (fun h2 => ?_) (fun h2 => ?_)
    · exact absurd h2 (by decide)
    · have h2' := Int32.not_lt.mp h2
      refine gp_iload_n dX3_runFrom_11 rfl ?_
      refine gp_pu (st' := .int (3) :: _) dX3_runFrom_12 rfl ?_
      refine gp_icc (t := 23) dX3_runFrom_13 (by decide) c2_ge (fun h3 => ?_) (fun h3 => ?_)
      · exact absurd h3 (by decide)
      · have h3' := Int32.not_le.mp h3
        refine gp_iload_n dX3_runFrom_16 rfl ?_
        refine gp_call (kind := 0) (args := [.int _]) (rest := _) dX3_runFrom_17 (Or.inl ⟨rfl, rfl⟩) mk_3_38 (by decide) me_102 rfl rfl rfl rfl rfl rfl (ok_X8_isKind _ _ _ _) rfl ?_
        refine gp_ifc (t := 25) dX3_runFrom_20 (by decide) c1_ne (fun h4 => ?_) (fun h4 => ?_)
        · refine gp_iload_n dX3_runFrom_25 rfl ?_
          refine gp_iload_n dX3_runFrom_26 rfl ?_
          refine gp_callX (kind := 0) (args := [.int _, .int _]) (rest := _) dX3_runFrom_27 (Or.inl ⟨rfl, rfl⟩) mk_3_48 (by decide) me_19 rfl rfl rfl rfl rfl rfl (hd_0_2 _) ?_
          intro K1 hK1
          rw [hK1]
          refine gp_istore (ls' := [some (.ref _), some (.int _), some (.int _), some (.int _), some (.int _), some (.int _), none, none, none]) dX3_runFrom_30 rfl (Nat.le_of_ble_eq_true rfl) ?_
          refine gp_iload dX3_runFrom_32 rfl ?_
          refine gp_call (kind := 0) (args := [.int _]) (rest := _) dX3_runFrom_34 (Or.inl ⟨rfl, rfl⟩) mk_3_38 (by decide) me_102 rfl rfl rfl rfl rfl rfl (ok_X8_isKind _ _ _ _) rfl ?_
          refine gp_ifc (t := 42) dX3_runFrom_37 (by decide) c1_ne (fun h5 => ?_) (fun h5 => ?_)
          · refine gp_gs dX3_runFrom_42 rfl ?_
            refine gp_iload_n dX3_runFrom_45 rfl ?_
            refine gp_pu (st' := .int (7) :: _) dX3_runFrom_46 rfl ?_
            refine gp_pu (st' := .int _ :: _) dX3_runFrom_48 rfl ?_
            refine gp_iload dX3_runFrom_49 rfl ?_
            refine gp_pu (st' := .int _ :: _) dX3_runFrom_51 rfl ?_
            refine gp_iacv (y := (10)) dX3_runFrom_52 rfl (by decide) (by decide) ?_
            refine gp_istore (ls' := [some (.ref _), some (.int _), some (.int _), some (.int _), some (.int _), some (.int _), some (.int _), none, none]) dX3_runFrom_53 rfl (Nat.le_of_ble_eq_true rfl) ?_
            refine gp_gs dX3_runFrom_55 rfl ?_
            refine gp_iload dX3_runFrom_58 rfl ?_
            refine gp_iacv (y := (-1)) dX3_runFrom_60 rfl (by decide) (by decide) ?_
            refine gp_istore (ls' := [some (.ref _), some (.int _), some (.int _), some (.int _), some (.int _), some (.int _), some (.int _), some (.int _), none]) dX3_runFrom_61 rfl (Nat.le_of_ble_eq_true rfl) ?_
            refine gp_iload dX3_runFrom_63 rfl ?_
            refine gp_pu (st' := .int (1) :: _) dX3_runFrom_65 rfl ?_
            refine gp_pu (st' := .int _ :: _) dX3_runFrom_66 rfl ?_
            refine gp_istore (ls' := [some (.ref _), some (.int _), some (.int _), some (.int _), some (.int _), some (.int _), some (.int _), some (.int _), some (.int _)]) dX3_runFrom_67 rfl (Nat.le_of_ble_eq_true rfl) ?_
            refine gp_aload_n dX3_runFrom_69 rfl ?_
            refine gp_iload dX3_runFrom_70 rfl ?_
            refine gp_callX (kind := 1) (args := [.ref _, .int _]) (rest := _) dX3_runFrom_72 (Or.inr (Or.inl ⟨rfl, rfl⟩)) mk_3_52 (by decide) me_18 rfl rfl rfl rfl rfl (mm_rc_of (by first | rfl | assumption | (simp only [*]; done))) (ct_note _ (by omega) h.1) ?_
            intro K2 hK2
            rw [hK2]
            have hm := h.nls [10]
            rw [show ([10] : List Int32).length = 1 from rfl] at hm
            refine gp_iload dX3_runFrom_75 rfl ?_
            refine gp_ls (t := 176) dX3_runFrom_77 (by decide) rfl ?_
            refine gp_iload_n dX3_runFrom_176 rfl ?_
            refine gp_aload_n dX3_runFrom_177 rfl ?_
            refine gp_giv dX3_runFrom_178 mf_3_22 (by decide) (by first | rfl | assumption | (simp only [*]; done)) (by first | exact hm.2.1 | exact hm.2.2.1 | exact hm.2.2.2 | exact rfl) ?_
            refine gp_pu (st' := .int _ :: _) dX3_runFrom_181 rfl ?_
            refine gp_iret dX3_runFrom_182 rfl ?_
            exact pX.mk rfl rfl
          · exact absurd (by decide) h5
        · exact absurd (by decide) h4

set_option maxHeartbeats 400000 in
theorem rn_1_0_2 (d : Nat) {m a x dd : Int32} {r : Nat} (h : mvs J 2 m a r) (hr : r + 2 ≤ 20) (hd : 0 ≤ dd.toInt ∧ dd.toInt + 1 ≤ 12) : cP (d + 4) 20 [.ref 71, .int 1, .int 0, .int x, .int dd] (mm_sh, mm_R, J, L) (pX (some (.int ((x + m) * 2))) L (fun K => K = nls J r [11, 10])) := by
  refine cP.of_gP (d := d + 3) me_20 ⟨Nat.le_of_ble_eq_true rfl, rfl⟩ ?_
  show gP mm_cs0 _ _ _ _ _ _ [some (.ref _), some (.int _), some (.int _), some (.int _), some (.int _), none, none, none, none] [] _ _
  refine gp_iload dX3_runFrom_0 rfl ?_
  refine gp_pu (st' := .int (12) :: _) dX3_runFrom_2 rfl ?_
  refine gp_icc (t := 23) dX3_runFrom_4 (by decide) c2_gt (fun h1 => ?_) (fun h1 => ?_)
  · exact absurd h1 (d_12 hd (by decide))
  · have h1' := Int32.not_lt.mp h1
    refine gp_iload_n dX3_runFrom_7 rfl ?_
    refine gp_ifc (t := 23) dX3_runFrom_8 (by decide) c1_lt (fun h2 => ?_) (fun h2 => ?_)
    · exact absurd h2 (by decide)
    · have h2' := Int32.not_lt.mp h2
      refine gp_iload_n dX3_runFrom_11 rfl ?_
      refine gp_pu (st' := .int (3) :: _) dX3_runFrom_12 rfl ?_
      refine gp_icc (t := 23) dX3_runFrom_13 (by decide) c2_ge (fun h3 => ?_) (fun h3 => ?_)
      · exact absurd h3 (by decide)
      · have h3' := Int32.not_le.mp h3
        refine gp_iload_n dX3_runFrom_16 rfl ?_
        refine gp_call (kind := 0) (args := [.int _]) (rest := _) dX3_runFrom_17 (Or.inl ⟨rfl, rfl⟩) mk_3_38 (by decide) me_102 rfl rfl rfl rfl rfl rfl (ok_X8_isKind _ _ _ _) rfl ?_
        refine gp_ifc (t := 25) dX3_runFrom_20 (by decide) c1_ne (fun h4 => ?_) (fun h4 => ?_)
        · refine gp_iload_n dX3_runFrom_25 rfl ?_
          refine gp_iload_n dX3_runFrom_26 rfl ?_
          refine gp_callX (kind := 0) (args := [.int _, .int _]) (rest := _) dX3_runFrom_27 (Or.inl ⟨rfl, rfl⟩) mk_3_48 (by decide) me_19 rfl rfl rfl rfl rfl rfl (hd_1_0 _) ?_
          intro K1 hK1
          rw [hK1]
          refine gp_istore (ls' := [some (.ref _), some (.int _), some (.int _), some (.int _), some (.int _), some (.int _), none, none, none]) dX3_runFrom_30 rfl (Nat.le_of_ble_eq_true rfl) ?_
          refine gp_iload dX3_runFrom_32 rfl ?_
          refine gp_call (kind := 0) (args := [.int _]) (rest := _) dX3_runFrom_34 (Or.inl ⟨rfl, rfl⟩) mk_3_38 (by decide) me_102 rfl rfl rfl rfl rfl rfl (ok_X8_isKind _ _ _ _) rfl ?_
          refine gp_ifc (t := 42) dX3_runFrom_37 (by decide) c1_ne (fun h5 => ?_) (fun h5 => ?_)
          · refine gp_gs dX3_runFrom_42 rfl ?_
            refine gp_iload_n dX3_runFrom_45 rfl ?_
            refine gp_pu (st' := .int (7) :: _) dX3_runFrom_46 rfl ?_
            refine gp_pu (st' := .int _ :: _) dX3_runFrom_48 rfl ?_
            refine gp_iload dX3_runFrom_49 rfl ?_
            refine gp_pu (st' := .int _ :: _) dX3_runFrom_51 rfl ?_
            refine gp_iacv (y := (11)) dX3_runFrom_52 rfl (by decide) (by decide) ?_
            refine gp_istore (ls' := [some (.ref _), some (.int _), some (.int _), some (.int _), some (.int _), some (.int _), some (.int _), none, none]) dX3_runFrom_53 rfl (Nat.le_of_ble_eq_true rfl) ?_
            refine gp_gs dX3_runFrom_55 rfl ?_
            refine gp_iload dX3_runFrom_58 rfl ?_
            refine gp_iacv (y := (-1)) dX3_runFrom_60 rfl (by decide) (by decide) ?_
            refine gp_istore (ls' := [some (.ref _), some (.int _), some (.int _), some (.int _), some (.int _), some (.int _), some (.int _), some (.int _), none]) dX3_runFrom_61 rfl (Nat.le_of_ble_eq_true rfl) ?_
            refine gp_iload dX3_runFrom_63 rfl ?_
            refine gp_pu (st' := .int (1) :: _) dX3_runFrom_65 rfl ?_
            refine gp_pu (st' := .int _ :: _) dX3_runFrom_66 rfl ?_
            refine gp_istore (ls' := [some (.ref _), some (.int _), some (.int _), some (.int _), some (.int _), some (.int _), some (.int _), some (.int _), some (.int _)]) dX3_runFrom_67 rfl (Nat.le_of_ble_eq_true rfl) ?_
            refine gp_aload_n dX3_runFrom_69 rfl ?_
            refine gp_iload dX3_runFrom_70 rfl ?_
            refine gp_callX (kind := 1) (args := [.ref _, .int _]) (rest := _) dX3_runFrom_72 (Or.inr (Or.inl ⟨rfl, rfl⟩)) mk_3_52 (by decide) me_18 rfl rfl rfl rfl rfl (mm_rc_of (by first | rfl | assumption | (simp only [*]; done))) (ct_note _ (by omega) h.1) ?_
            intro K2 hK2
            rw [hK2]
            have hm := h.nls [11]
            rw [show ([11] : List Int32).length = 1 from rfl] at hm
            refine gp_iload dX3_runFrom_75 rfl ?_
            refine gp_ls (t := 183) dX3_runFrom_77 (by decide) rfl ?_
            refine gp_aload_n dX3_runFrom_183 rfl ?_
            refine gp_pu (st' := .int (0) :: _) dX3_runFrom_184 rfl ?_
            refine gp_aload_n dX3_runFrom_185 rfl ?_
            refine gp_giv dX3_runFrom_186 mf_3_21 (by decide) (by first | rfl | assumption | (simp only [*]; done)) (by first | exact hm.2.1 | exact hm.2.2.1 | exact hm.2.2.2 | exact rfl) ?_
            refine gp_iload_n dX3_runFrom_189 rfl ?_
            refine gp_iload dX3_runFrom_190 rfl ?_
            refine gp_callX (kind := 0) (args := [.ref _, .int _, .int _, .int _, .int _]) (rest := _) dX3_runFrom_192 (Or.inl ⟨rfl, rfl⟩) mk_3_31 (by decide) me_20 rfl rfl rfl rfl rfl rfl (rn_0_2 _ hm (by omega) (d_inc hd (by decide) (by decide))) ?_
            intro K3 hK3
            rw [hK3]
            refine gp_pu (st' := .int (2) :: _) dX3_runFrom_195 rfl ?_
            refine gp_pu (st' := .int _ :: _) dX3_runFrom_196 rfl ?_
            refine gp_iret dX3_runFrom_197 rfl ?_
            exact pX.mk rfl (nls_app [11] J r [10])
          · exact absurd (by decide) h5
        · exact absurd (by decide) h4

set_option maxHeartbeats 400000 in
theorem rn_1_2_2 (d : Nat) {m a x dd : Int32} {r : Nat} (h : mvs J 2 m a r) (hr : r + 3 ≤ 20) (hd : 0 ≤ dd.toInt ∧ dd.toInt + 2 ≤ 12) : cP (d + 5) 20 [.ref 71, .int 1, .int 2, .int x, .int dd] (mm_sh, mm_R, J, L) (pX (some (.int (((x + m) * 2) * 3))) L (fun K => K = nls J r [30, 11, 10])) := by
  refine cP.of_gP (d := d + 4) me_20 ⟨Nat.le_of_ble_eq_true rfl, rfl⟩ ?_
  show gP mm_cs0 _ _ _ _ _ _ [some (.ref _), some (.int _), some (.int _), some (.int _), some (.int _), none, none, none, none] [] _ _
  refine gp_iload dX3_runFrom_0 rfl ?_
  refine gp_pu (st' := .int (12) :: _) dX3_runFrom_2 rfl ?_
  refine gp_icc (t := 23) dX3_runFrom_4 (by decide) c2_gt (fun h1 => ?_) (fun h1 => ?_)
  · exact absurd h1 (d_12 hd (by decide))
  · have h1' := Int32.not_lt.mp h1
    refine gp_iload_n dX3_runFrom_7 rfl ?_
    refine gp_ifc (t := 23) dX3_runFrom_8 (by decide) c1_lt (fun h2 => ?_) (fun h2 => ?_)
    · exact absurd h2 (by decide)
    · have h2' := Int32.not_lt.mp h2
      refine gp_iload_n dX3_runFrom_11 rfl ?_
      refine gp_pu (st' := .int (3) :: _) dX3_runFrom_12 rfl ?_
      refine gp_icc (t := 23) dX3_runFrom_13 (by decide) c2_ge (fun h3 => ?_) (fun h3 => ?_)
      · exact absurd h3 (by decide)
      · have h3' := Int32.not_le.mp h3
        refine gp_iload_n dX3_runFrom_16 rfl ?_
        refine gp_call (kind := 0) (args := [.int _]) (rest := _) dX3_runFrom_17 (Or.inl ⟨rfl, rfl⟩) mk_3_38 (by decide) me_102 rfl rfl rfl rfl rfl rfl (ok_X8_isKind _ _ _ _) rfl ?_
        refine gp_ifc (t := 25) dX3_runFrom_20 (by decide) c1_ne (fun h4 => ?_) (fun h4 => ?_)
        · refine gp_iload_n dX3_runFrom_25 rfl ?_
          refine gp_iload_n dX3_runFrom_26 rfl ?_
          refine gp_callX (kind := 0) (args := [.int _, .int _]) (rest := _) dX3_runFrom_27 (Or.inl ⟨rfl, rfl⟩) mk_3_48 (by decide) me_19 rfl rfl rfl rfl rfl rfl (hd_1_2 _) ?_
          intro K1 hK1
          rw [hK1]
          refine gp_istore (ls' := [some (.ref _), some (.int _), some (.int _), some (.int _), some (.int _), some (.int _), none, none, none]) dX3_runFrom_30 rfl (Nat.le_of_ble_eq_true rfl) ?_
          refine gp_iload dX3_runFrom_32 rfl ?_
          refine gp_call (kind := 0) (args := [.int _]) (rest := _) dX3_runFrom_34 (Or.inl ⟨rfl, rfl⟩) mk_3_38 (by decide) me_102 rfl rfl rfl rfl rfl rfl (ok_X8_isKind _ _ _ _) rfl ?_
          refine gp_ifc (t := 42) dX3_runFrom_37 (by decide) c1_ne (fun h5 => ?_) (fun h5 => ?_)
          · refine gp_gs dX3_runFrom_42 rfl ?_
            refine gp_iload_n dX3_runFrom_45 rfl ?_
            refine gp_pu (st' := .int (7) :: _) dX3_runFrom_46 rfl ?_
            refine gp_pu (st' := .int _ :: _) dX3_runFrom_48 rfl ?_
            refine gp_iload dX3_runFrom_49 rfl ?_
            refine gp_pu (st' := .int _ :: _) dX3_runFrom_51 rfl ?_
            refine gp_iacv (y := (30)) dX3_runFrom_52 rfl (by decide) (by decide) ?_
            refine gp_istore (ls' := [some (.ref _), some (.int _), some (.int _), some (.int _), some (.int _), some (.int _), some (.int _), none, none]) dX3_runFrom_53 rfl (Nat.le_of_ble_eq_true rfl) ?_
            refine gp_gs dX3_runFrom_55 rfl ?_
            refine gp_iload dX3_runFrom_58 rfl ?_
            refine gp_iacv (y := (0)) dX3_runFrom_60 rfl (by decide) (by decide) ?_
            refine gp_istore (ls' := [some (.ref _), some (.int _), some (.int _), some (.int _), some (.int _), some (.int _), some (.int _), some (.int _), none]) dX3_runFrom_61 rfl (Nat.le_of_ble_eq_true rfl) ?_
            refine gp_iload dX3_runFrom_63 rfl ?_
            refine gp_pu (st' := .int (1) :: _) dX3_runFrom_65 rfl ?_
            refine gp_pu (st' := .int _ :: _) dX3_runFrom_66 rfl ?_
            refine gp_istore (ls' := [some (.ref _), some (.int _), some (.int _), some (.int _), some (.int _), some (.int _), some (.int _), some (.int _), some (.int _)]) dX3_runFrom_67 rfl (Nat.le_of_ble_eq_true rfl) ?_
            refine gp_aload_n dX3_runFrom_69 rfl ?_
            refine gp_iload dX3_runFrom_70 rfl ?_
            refine gp_callX (kind := 1) (args := [.ref _, .int _]) (rest := _) dX3_runFrom_72 (Or.inr (Or.inl ⟨rfl, rfl⟩)) mk_3_52 (by decide) me_18 rfl rfl rfl rfl rfl (mm_rc_of (by first | rfl | assumption | (simp only [*]; done))) (ct_note _ (by omega) h.1) ?_
            intro K2 hK2
            rw [hK2]
            have hm := h.nls [30]
            rw [show ([30] : List Int32).length = 1 from rfl] at hm
            refine gp_iload dX3_runFrom_75 rfl ?_
            refine gp_ls (t := 245) dX3_runFrom_77 (by decide) rfl ?_
            refine gp_aload_n dX3_runFrom_245 rfl ?_
            refine gp_pu (st' := .int (1) :: _) dX3_runFrom_246 rfl ?_
            refine gp_iload dX3_runFrom_247 rfl ?_
            refine gp_iload_n dX3_runFrom_249 rfl ?_
            refine gp_iload dX3_runFrom_250 rfl ?_
            refine gp_callX (kind := 0) (args := [.ref _, .int _, .int _, .int _, .int _]) (rest := _) dX3_runFrom_252 (Or.inl ⟨rfl, rfl⟩) mk_3_31 (by decide) me_20 rfl rfl rfl rfl rfl rfl (rn_1_0_2 _ hm (by omega) (d_inc hd (by decide) (by decide))) ?_
            intro K3 hK3
            rw [hK3]
            refine gp_pu (st' := .int (3) :: _) dX3_runFrom_255 rfl ?_
            refine gp_pu (st' := .int _ :: _) dX3_runFrom_256 rfl ?_
            refine gp_iret dX3_runFrom_257 rfl ?_
            exact pX.mk rfl (nls_app [30] J r [11, 10])
          · exact absurd (by decide) h5
        · exact absurd (by decide) h4

set_option maxHeartbeats 400000 in
theorem rn_2_2_2 (d : Nat) {m a x dd : Int32} {r : Nat} (h : mvs J 2 m a r) (hr : r + 5 ≤ 20) (hd : 0 ≤ dd.toInt ∧ dd.toInt + 3 ≤ 12) : cP (d + 6) 20 [.ref 71, .int 2, .int 2, .int x, .int dd] (mm_sh, mm_R, J, L) (pX (some (.int ((((x + m) * 2) * 3) ^^^ ((x - a) + m)))) L (fun K => K = nls J r [12, 30, 11, 10, 10])) := by
  refine cP.of_gP (d := d + 5) me_20 ⟨Nat.le_of_ble_eq_true rfl, rfl⟩ ?_
  show gP mm_cs0 _ _ _ _ _ _ [some (.ref _), some (.int _), some (.int _), some (.int _), some (.int _), none, none, none, none] [] _ _
  refine gp_iload dX3_runFrom_0 rfl ?_
  refine gp_pu (st' := .int (12) :: _) dX3_runFrom_2 rfl ?_
  refine gp_icc (t := 23) dX3_runFrom_4 (by decide) c2_gt (fun h1 => ?_) (fun h1 => ?_)
  · exact absurd h1 (d_12 hd (by decide))
  · have h1' := Int32.not_lt.mp h1
    refine gp_iload_n dX3_runFrom_7 rfl ?_
    refine gp_ifc (t := 23) dX3_runFrom_8 (by decide) c1_lt (fun h2 => ?_) (fun h2 => ?_)
    · exact absurd h2 (by decide)
    · have h2' := Int32.not_lt.mp h2
      refine gp_iload_n dX3_runFrom_11 rfl ?_
      refine gp_pu (st' := .int (3) :: _) dX3_runFrom_12 rfl ?_
      refine gp_icc (t := 23) dX3_runFrom_13 (by decide) c2_ge (fun h3 => ?_) (fun h3 => ?_)
      · exact absurd h3 (by decide)
      · have h3' := Int32.not_le.mp h3
        refine gp_iload_n dX3_runFrom_16 rfl ?_
        refine gp_call (kind := 0) (args := [.int _]) (rest := _) dX3_runFrom_17 (Or.inl ⟨rfl, rfl⟩) mk_3_38 (by decide) me_102 rfl rfl rfl rfl rfl rfl (ok_X8_isKind _ _ _ _) rfl ?_
        refine gp_ifc (t := 25) dX3_runFrom_20 (by decide) c1_ne (fun h4 => ?_) (fun h4 => ?_)
        · refine gp_iload_n dX3_runFrom_25 rfl ?_
          refine gp_iload_n dX3_runFrom_26 rfl ?_
          refine gp_callX (kind := 0) (args := [.int _, .int _]) (rest := _) dX3_runFrom_27 (Or.inl ⟨rfl, rfl⟩) mk_3_48 (by decide) me_19 rfl rfl rfl rfl rfl rfl (hd_2_2 _) ?_
          intro K1 hK1
          rw [hK1]
          refine gp_istore (ls' := [some (.ref _), some (.int _), some (.int _), some (.int _), some (.int _), some (.int _), none, none, none]) dX3_runFrom_30 rfl (Nat.le_of_ble_eq_true rfl) ?_
          refine gp_iload dX3_runFrom_32 rfl ?_
          refine gp_call (kind := 0) (args := [.int _]) (rest := _) dX3_runFrom_34 (Or.inl ⟨rfl, rfl⟩) mk_3_38 (by decide) me_102 rfl rfl rfl rfl rfl rfl (ok_X8_isKind _ _ _ _) rfl ?_
          refine gp_ifc (t := 42) dX3_runFrom_37 (by decide) c1_ne (fun h5 => ?_) (fun h5 => ?_)
          · refine gp_gs dX3_runFrom_42 rfl ?_
            refine gp_iload_n dX3_runFrom_45 rfl ?_
            refine gp_pu (st' := .int (7) :: _) dX3_runFrom_46 rfl ?_
            refine gp_pu (st' := .int _ :: _) dX3_runFrom_48 rfl ?_
            refine gp_iload dX3_runFrom_49 rfl ?_
            refine gp_pu (st' := .int _ :: _) dX3_runFrom_51 rfl ?_
            refine gp_iacv (y := (12)) dX3_runFrom_52 rfl (by decide) (by decide) ?_
            refine gp_istore (ls' := [some (.ref _), some (.int _), some (.int _), some (.int _), some (.int _), some (.int _), some (.int _), none, none]) dX3_runFrom_53 rfl (Nat.le_of_ble_eq_true rfl) ?_
            refine gp_gs dX3_runFrom_55 rfl ?_
            refine gp_iload dX3_runFrom_58 rfl ?_
            refine gp_iacv (y := (-1)) dX3_runFrom_60 rfl (by decide) (by decide) ?_
            refine gp_istore (ls' := [some (.ref _), some (.int _), some (.int _), some (.int _), some (.int _), some (.int _), some (.int _), some (.int _), none]) dX3_runFrom_61 rfl (Nat.le_of_ble_eq_true rfl) ?_
            refine gp_iload dX3_runFrom_63 rfl ?_
            refine gp_pu (st' := .int (1) :: _) dX3_runFrom_65 rfl ?_
            refine gp_pu (st' := .int _ :: _) dX3_runFrom_66 rfl ?_
            refine gp_istore (ls' := [some (.ref _), some (.int _), some (.int _), some (.int _), some (.int _), some (.int _), some (.int _), some (.int _), some (.int _)]) dX3_runFrom_67 rfl (Nat.le_of_ble_eq_true rfl) ?_
            refine gp_aload_n dX3_runFrom_69 rfl ?_
            refine gp_iload dX3_runFrom_70 rfl ?_
            refine gp_callX (kind := 1) (args := [.ref _, .int _]) (rest := _) dX3_runFrom_72 (Or.inr (Or.inl ⟨rfl, rfl⟩)) mk_3_52 (by decide) me_18 rfl rfl rfl rfl rfl (mm_rc_of (by first | rfl | assumption | (simp only [*]; done))) (ct_note _ (by omega) h.1) ?_
            intro K2 hK2
            rw [hK2]
            have hm := h.nls [12]
            rw [show ([12] : List Int32).length = 1 from rfl] at hm
            refine gp_iload dX3_runFrom_75 rfl ?_
            refine gp_ls (t := 198) dX3_runFrom_77 (by decide) rfl ?_
            refine gp_aload_n dX3_runFrom_198 rfl ?_
            refine gp_pu (st' := .int (1) :: _) dX3_runFrom_199 rfl ?_
            refine gp_aload_n dX3_runFrom_200 rfl ?_
            refine gp_giv dX3_runFrom_201 mf_3_21 (by decide) (by first | rfl | assumption | (simp only [*]; done)) (by first | exact hm.2.1 | exact hm.2.2.1 | exact hm.2.2.2 | exact rfl) ?_
            refine gp_iload_n dX3_runFrom_204 rfl ?_
            refine gp_iload dX3_runFrom_205 rfl ?_
            refine gp_callX (kind := 0) (args := [.ref _, .int _, .int _, .int _, .int _]) (rest := _) dX3_runFrom_207 (Or.inl ⟨rfl, rfl⟩) mk_3_31 (by decide) me_20 rfl rfl rfl rfl rfl rfl (rn_1_2_2 _ hm (by omega) (d_inc hd (by decide) (by decide))) ?_
            intro K3 hK3
            rw [hK3]
            have hm2 := hm.nls [30, 11, 10]
            rw [show ([30, 11, 10] : List Int32).length = 3 from rfl] at hm2
            refine gp_aload_n dX3_runFrom_210 rfl ?_
            refine gp_pu (st' := .int (0) :: _) dX3_runFrom_211 rfl ?_
            refine gp_aload_n dX3_runFrom_212 rfl ?_
            refine gp_giv dX3_runFrom_213 mf_3_21 (by decide) (by first | rfl | assumption | (simp only [*]; done)) (by first | exact hm2.2.1 | exact hm2.2.2.1 | exact hm2.2.2.2 | exact hm.2.1 | exact hm.2.2.1 | exact hm.2.2.2 | exact rfl) ?_
            refine gp_iload_n dX3_runFrom_216 rfl ?_
            refine gp_aload_n dX3_runFrom_217 rfl ?_
            refine gp_giv dX3_runFrom_218 mf_3_28 (by decide) (by first | rfl | assumption | (simp only [*]; done)) (by first | exact hm2.2.1 | exact hm2.2.2.1 | exact hm2.2.2.2 | exact hm.2.1 | exact hm.2.2.1 | exact hm.2.2.2 | exact rfl) ?_
            refine gp_pu (st' := .int _ :: _) dX3_runFrom_221 rfl ?_
            refine gp_iload dX3_runFrom_222 rfl ?_
            refine gp_callX (kind := 0) (args := [.ref _, .int _, .int _, .int _, .int _]) (rest := _) dX3_runFrom_224 (Or.inl ⟨rfl, rfl⟩) mk_3_31 (by decide) me_20 rfl rfl rfl rfl rfl rfl (rn_0_2 _ hm2 (by omega) (d_inc hd (by decide) (by decide))) ?_
            intro K4 hK4
            rw [hK4]
            refine gp_pu (st' := .int _ :: _) dX3_runFrom_227 rfl ?_
            refine gp_iret dX3_runFrom_228 rfl ?_
            (refine pX.mk rfl ?_
             have q1 := nls_app [12] J r [30, 11, 10]
             have q2 := nls_app ([12] ++ [30, 11, 10]) J r [10]
             rw [← q1] at q2
             rw [show ([12] ++ [30, 11, 10] : List Int32).length = 4 from rfl, show ([12] : List Int32).length = 1 from rfl] at q2
             exact q2)
          · exact absurd (by decide) h5
        · exact absurd (by decide) h4

set_option maxHeartbeats 400000 in
theorem rn_0_3 (d : Nat) {m a x dd : Int32} {k0 : Int32} {r : Nat} (h : mvs J k0 m a r) (hr : r + 2 ≤ 20) (hd : 0 ≤ dd.toInt ∧ dd.toInt + 1 ≤ 12) : cP (d + 4) 20 [.ref 71, .int 0, .int 3, .int x, .int dd] (mm_sh, mm_R, J, L) (pX (some (.int ((x + m) + a))) L (fun K => K = nls J r [20, 10])) := by
  refine cP.of_gP (d := d + 3) me_20 ⟨Nat.le_of_ble_eq_true rfl, rfl⟩ ?_
  show gP mm_cs0 _ _ _ _ _ _ [some (.ref _), some (.int _), some (.int _), some (.int _), some (.int _), none, none, none, none] [] _ _
  refine gp_iload dX3_runFrom_0 rfl ?_
  refine gp_pu (st' := .int (12) :: _) dX3_runFrom_2 rfl ?_
  refine gp_icc (t := 23) dX3_runFrom_4 (by decide) c2_gt (fun h1 => ?_) (fun h1 => ?_)
  · exact absurd h1 (d_12 hd (by decide))
  · have h1' := Int32.not_lt.mp h1
    refine gp_iload_n dX3_runFrom_7 rfl ?_
    refine gp_ifc (t := 23) dX3_runFrom_8 (by decide) c1_lt (fun h2 => ?_) (fun h2 => ?_)
    · exact absurd h2 (by decide)
    · have h2' := Int32.not_lt.mp h2
      refine gp_iload_n dX3_runFrom_11 rfl ?_
      refine gp_pu (st' := .int (3) :: _) dX3_runFrom_12 rfl ?_
      refine gp_icc (t := 23) dX3_runFrom_13 (by decide) c2_ge (fun h3 => ?_) (fun h3 => ?_)
      · exact absurd h3 (by decide)
      · have h3' := Int32.not_le.mp h3
        refine gp_iload_n dX3_runFrom_16 rfl ?_
        refine gp_call (kind := 0) (args := [.int _]) (rest := _) dX3_runFrom_17 (Or.inl ⟨rfl, rfl⟩) mk_3_38 (by decide) me_102 rfl rfl rfl rfl rfl rfl (ok_X8_isKind _ _ _ _) rfl ?_
        refine gp_ifc (t := 25) dX3_runFrom_20 (by decide) c1_ne (fun h4 => ?_) (fun h4 => ?_)
        · refine gp_iload_n dX3_runFrom_25 rfl ?_
          refine gp_iload_n dX3_runFrom_26 rfl ?_
          refine gp_callX (kind := 0) (args := [.int _, .int _]) (rest := _) dX3_runFrom_27 (Or.inl ⟨rfl, rfl⟩) mk_3_48 (by decide) me_19 rfl rfl rfl rfl rfl rfl (hd_0_3 _) ?_
          intro K1 hK1
          rw [hK1]
          refine gp_istore (ls' := [some (.ref _), some (.int _), some (.int _), some (.int _), some (.int _), some (.int _), none, none, none]) dX3_runFrom_30 rfl (Nat.le_of_ble_eq_true rfl) ?_
          refine gp_iload dX3_runFrom_32 rfl ?_
          refine gp_call (kind := 0) (args := [.int _]) (rest := _) dX3_runFrom_34 (Or.inl ⟨rfl, rfl⟩) mk_3_38 (by decide) me_102 rfl rfl rfl rfl rfl rfl (ok_X8_isKind _ _ _ _) rfl ?_
          refine gp_ifc (t := 42) dX3_runFrom_37 (by decide) c1_ne (fun h5 => ?_) (fun h5 => ?_)
          · refine gp_gs dX3_runFrom_42 rfl ?_
            refine gp_iload_n dX3_runFrom_45 rfl ?_
            refine gp_pu (st' := .int (7) :: _) dX3_runFrom_46 rfl ?_
            refine gp_pu (st' := .int _ :: _) dX3_runFrom_48 rfl ?_
            refine gp_iload dX3_runFrom_49 rfl ?_
            refine gp_pu (st' := .int _ :: _) dX3_runFrom_51 rfl ?_
            refine gp_iacv (y := (20)) dX3_runFrom_52 rfl (by decide) (by decide) ?_
            refine gp_istore (ls' := [some (.ref _), some (.int _), some (.int _), some (.int _), some (.int _), some (.int _), some (.int _), none, none]) dX3_runFrom_53 rfl (Nat.le_of_ble_eq_true rfl) ?_
            refine gp_gs dX3_runFrom_55 rfl ?_
            refine gp_iload dX3_runFrom_58 rfl ?_
            refine gp_iacv (y := (0)) dX3_runFrom_60 rfl (by decide) (by decide) ?_
            refine gp_istore (ls' := [some (.ref _), some (.int _), some (.int _), some (.int _), some (.int _), some (.int _), some (.int _), some (.int _), none]) dX3_runFrom_61 rfl (Nat.le_of_ble_eq_true rfl) ?_
            refine gp_iload dX3_runFrom_63 rfl ?_
            refine gp_pu (st' := .int (1) :: _) dX3_runFrom_65 rfl ?_
            refine gp_pu (st' := .int _ :: _) dX3_runFrom_66 rfl ?_
            refine gp_istore (ls' := [some (.ref _), some (.int _), some (.int _), some (.int _), some (.int _), some (.int _), some (.int _), some (.int _), some (.int _)]) dX3_runFrom_67 rfl (Nat.le_of_ble_eq_true rfl) ?_
            refine gp_aload_n dX3_runFrom_69 rfl ?_
            refine gp_iload dX3_runFrom_70 rfl ?_
            refine gp_callX (kind := 1) (args := [.ref _, .int _]) (rest := _) dX3_runFrom_72 (Or.inr (Or.inl ⟨rfl, rfl⟩)) mk_3_52 (by decide) me_18 rfl rfl rfl rfl rfl (mm_rc_of (by first | rfl | assumption | (simp only [*]; done))) (ct_note _ (by omega) h.1) ?_
            intro K2 hK2
            rw [hK2]
            have hm := h.nls [20]
            rw [show ([20] : List Int32).length = 1 from rfl] at hm
            refine gp_iload dX3_runFrom_75 rfl ?_
            refine gp_ls (t := 229) dX3_runFrom_77 (by decide) rfl ?_
            refine gp_aload_n dX3_runFrom_229 rfl ?_
            refine gp_pu (st' := .int (0) :: _) dX3_runFrom_230 rfl ?_
            refine gp_iload dX3_runFrom_231 rfl ?_
            refine gp_iload_n dX3_runFrom_233 rfl ?_
            refine gp_iload dX3_runFrom_234 rfl ?_
            refine gp_callX (kind := 0) (args := [.ref _, .int _, .int _, .int _, .int _]) (rest := _) dX3_runFrom_236 (Or.inl ⟨rfl, rfl⟩) mk_3_31 (by decide) me_20 rfl rfl rfl rfl rfl rfl (rn_0_0 _ hm (by omega) (d_inc hd (by decide) (by decide))) ?_
            intro K3 hK3
            rw [hK3]
            refine gp_aload_n dX3_runFrom_239 rfl ?_
            refine gp_giv dX3_runFrom_240 mf_3_28 (by decide) (by first | rfl | assumption | (simp only [*]; done)) (by first | exact hm.2.1 | exact hm.2.2.1 | exact hm.2.2.2 | exact rfl) ?_
            refine gp_pu (st' := .int _ :: _) dX3_runFrom_243 rfl ?_
            refine gp_iret dX3_runFrom_244 rfl ?_
            exact pX.mk rfl (nls_app [20] J r [10])
          · exact absurd (by decide) h5
        · exact absurd (by decide) h4

set_option maxHeartbeats 400000 in
theorem rn_1_1_3 (d : Nat) {m a x dd : Int32} {r : Nat} (h : mvs J 3 m a r) (hr : r + 3 ≤ 20) (hd : 0 ≤ dd.toInt ∧ dd.toInt + 2 ≤ 12) : cP (d + 5) 20 [.ref 71, .int 1, .int 1, .int x, .int dd] (mm_sh, mm_R, J, L) (pX (some (.int (((x + m) + a) * 2))) L (fun K => K = nls J r [11, 20, 10])) := by
  refine cP.of_gP (d := d + 4) me_20 ⟨Nat.le_of_ble_eq_true rfl, rfl⟩ ?_
  show gP mm_cs0 _ _ _ _ _ _ [some (.ref _), some (.int _), some (.int _), some (.int _), some (.int _), none, none, none, none] [] _ _
  refine gp_iload dX3_runFrom_0 rfl ?_
  refine gp_pu (st' := .int (12) :: _) dX3_runFrom_2 rfl ?_
  refine gp_icc (t := 23) dX3_runFrom_4 (by decide) c2_gt (fun h1 => ?_) (fun h1 => ?_)
  · exact absurd h1 (d_12 hd (by decide))
  · have h1' := Int32.not_lt.mp h1
    refine gp_iload_n dX3_runFrom_7 rfl ?_
    refine gp_ifc (t := 23) dX3_runFrom_8 (by decide) c1_lt (fun h2 => ?_) (fun h2 => ?_)
    · exact absurd h2 (by decide)
    · have h2' := Int32.not_lt.mp h2
      refine gp_iload_n dX3_runFrom_11 rfl ?_
      refine gp_pu (st' := .int (3) :: _) dX3_runFrom_12 rfl ?_
      refine gp_icc (t := 23) dX3_runFrom_13 (by decide) c2_ge (fun h3 => ?_) (fun h3 => ?_)
      · exact absurd h3 (by decide)
      · have h3' := Int32.not_le.mp h3
        refine gp_iload_n dX3_runFrom_16 rfl ?_
        refine gp_call (kind := 0) (args := [.int _]) (rest := _) dX3_runFrom_17 (Or.inl ⟨rfl, rfl⟩) mk_3_38 (by decide) me_102 rfl rfl rfl rfl rfl rfl (ok_X8_isKind _ _ _ _) rfl ?_
        refine gp_ifc (t := 25) dX3_runFrom_20 (by decide) c1_ne (fun h4 => ?_) (fun h4 => ?_)
        · refine gp_iload_n dX3_runFrom_25 rfl ?_
          refine gp_iload_n dX3_runFrom_26 rfl ?_
          refine gp_callX (kind := 0) (args := [.int _, .int _]) (rest := _) dX3_runFrom_27 (Or.inl ⟨rfl, rfl⟩) mk_3_48 (by decide) me_19 rfl rfl rfl rfl rfl rfl (hd_1_1 _) ?_
          intro K1 hK1
          rw [hK1]
          refine gp_istore (ls' := [some (.ref _), some (.int _), some (.int _), some (.int _), some (.int _), some (.int _), none, none, none]) dX3_runFrom_30 rfl (Nat.le_of_ble_eq_true rfl) ?_
          refine gp_iload dX3_runFrom_32 rfl ?_
          refine gp_call (kind := 0) (args := [.int _]) (rest := _) dX3_runFrom_34 (Or.inl ⟨rfl, rfl⟩) mk_3_38 (by decide) me_102 rfl rfl rfl rfl rfl rfl (ok_X8_isKind _ _ _ _) rfl ?_
          refine gp_ifc (t := 42) dX3_runFrom_37 (by decide) c1_ne (fun h5 => ?_) (fun h5 => ?_)
          · refine gp_gs dX3_runFrom_42 rfl ?_
            refine gp_iload_n dX3_runFrom_45 rfl ?_
            refine gp_pu (st' := .int (7) :: _) dX3_runFrom_46 rfl ?_
            refine gp_pu (st' := .int _ :: _) dX3_runFrom_48 rfl ?_
            refine gp_iload dX3_runFrom_49 rfl ?_
            refine gp_pu (st' := .int _ :: _) dX3_runFrom_51 rfl ?_
            refine gp_iacv (y := (11)) dX3_runFrom_52 rfl (by decide) (by decide) ?_
            refine gp_istore (ls' := [some (.ref _), some (.int _), some (.int _), some (.int _), some (.int _), some (.int _), some (.int _), none, none]) dX3_runFrom_53 rfl (Nat.le_of_ble_eq_true rfl) ?_
            refine gp_gs dX3_runFrom_55 rfl ?_
            refine gp_iload dX3_runFrom_58 rfl ?_
            refine gp_iacv (y := (-1)) dX3_runFrom_60 rfl (by decide) (by decide) ?_
            refine gp_istore (ls' := [some (.ref _), some (.int _), some (.int _), some (.int _), some (.int _), some (.int _), some (.int _), some (.int _), none]) dX3_runFrom_61 rfl (Nat.le_of_ble_eq_true rfl) ?_
            refine gp_iload dX3_runFrom_63 rfl ?_
            refine gp_pu (st' := .int (1) :: _) dX3_runFrom_65 rfl ?_
            refine gp_pu (st' := .int _ :: _) dX3_runFrom_66 rfl ?_
            refine gp_istore (ls' := [some (.ref _), some (.int _), some (.int _), some (.int _), some (.int _), some (.int _), some (.int _), some (.int _), some (.int _)]) dX3_runFrom_67 rfl (Nat.le_of_ble_eq_true rfl) ?_
            refine gp_aload_n dX3_runFrom_69 rfl ?_
            refine gp_iload dX3_runFrom_70 rfl ?_
            refine gp_callX (kind := 1) (args := [.ref _, .int _]) (rest := _) dX3_runFrom_72 (Or.inr (Or.inl ⟨rfl, rfl⟩)) mk_3_52 (by decide) me_18 rfl rfl rfl rfl rfl (mm_rc_of (by first | rfl | assumption | (simp only [*]; done))) (ct_note _ (by omega) h.1) ?_
            intro K2 hK2
            rw [hK2]
            have hm := h.nls [11]
            rw [show ([11] : List Int32).length = 1 from rfl] at hm
            refine gp_iload dX3_runFrom_75 rfl ?_
            refine gp_ls (t := 183) dX3_runFrom_77 (by decide) rfl ?_
            refine gp_aload_n dX3_runFrom_183 rfl ?_
            refine gp_pu (st' := .int (0) :: _) dX3_runFrom_184 rfl ?_
            refine gp_aload_n dX3_runFrom_185 rfl ?_
            refine gp_giv dX3_runFrom_186 mf_3_21 (by decide) (by first | rfl | assumption | (simp only [*]; done)) (by first | exact hm.2.1 | exact hm.2.2.1 | exact hm.2.2.2 | exact rfl) ?_
            refine gp_iload_n dX3_runFrom_189 rfl ?_
            refine gp_iload dX3_runFrom_190 rfl ?_
            refine gp_callX (kind := 0) (args := [.ref _, .int _, .int _, .int _, .int _]) (rest := _) dX3_runFrom_192 (Or.inl ⟨rfl, rfl⟩) mk_3_31 (by decide) me_20 rfl rfl rfl rfl rfl rfl (rn_0_3 _ hm (by omega) (d_inc hd (by decide) (by decide))) ?_
            intro K3 hK3
            rw [hK3]
            refine gp_pu (st' := .int (2) :: _) dX3_runFrom_195 rfl ?_
            refine gp_pu (st' := .int _ :: _) dX3_runFrom_196 rfl ?_
            refine gp_iret dX3_runFrom_197 rfl ?_
            exact pX.mk rfl (nls_app [11] J r [20, 10])
          · exact absurd (by decide) h5
        · exact absurd (by decide) h4

set_option maxHeartbeats 400000 in
theorem rn_1_3_3 (d : Nat) {m a x dd : Int32} {r : Nat} (h : mvs J 3 m a r) (hr : r + 4 ≤ 20) (hd : 0 ≤ dd.toInt ∧ dd.toInt + 3 ≤ 12) : cP (d + 6) 20 [.ref 71, .int 1, .int 3, .int x, .int dd] (mm_sh, mm_R, J, L) (pX (some (.int ((((x + 1) + m) + a) * 2))) L (fun K => K = nls J r [40, 11, 20, 10])) := by
  refine cP.of_gP (d := d + 5) me_20 ⟨Nat.le_of_ble_eq_true rfl, rfl⟩ ?_
  show gP mm_cs0 _ _ _ _ _ _ [some (.ref _), some (.int _), some (.int _), some (.int _), some (.int _), none, none, none, none] [] _ _
  refine gp_iload dX3_runFrom_0 rfl ?_
  refine gp_pu (st' := .int (12) :: _) dX3_runFrom_2 rfl ?_
  refine gp_icc (t := 23) dX3_runFrom_4 (by decide) c2_gt (fun h1 => ?_) (fun h1 => ?_)
  · exact absurd h1 (d_12 hd (by decide))
  · have h1' := Int32.not_lt.mp h1
    refine gp_iload_n dX3_runFrom_7 rfl ?_
    refine gp_ifc (t := 23) dX3_runFrom_8 (by decide) c1_lt (fun h2 => ?_) (fun h2 => ?_)
    · exact absurd h2 (by decide)
    · have h2' := Int32.not_lt.mp h2
      refine gp_iload_n dX3_runFrom_11 rfl ?_
      refine gp_pu (st' := .int (3) :: _) dX3_runFrom_12 rfl ?_
      refine gp_icc (t := 23) dX3_runFrom_13 (by decide) c2_ge (fun h3 => ?_) (fun h3 => ?_)
      · exact absurd h3 (by decide)
      · have h3' := Int32.not_le.mp h3
        refine gp_iload_n dX3_runFrom_16 rfl ?_
        refine gp_call (kind := 0) (args := [.int _]) (rest := _) dX3_runFrom_17 (Or.inl ⟨rfl, rfl⟩) mk_3_38 (by decide) me_102 rfl rfl rfl rfl rfl rfl (ok_X8_isKind _ _ _ _) rfl ?_
        refine gp_ifc (t := 25) dX3_runFrom_20 (by decide) c1_ne (fun h4 => ?_) (fun h4 => ?_)
        · refine gp_iload_n dX3_runFrom_25 rfl ?_
          refine gp_iload_n dX3_runFrom_26 rfl ?_
          refine gp_callX (kind := 0) (args := [.int _, .int _]) (rest := _) dX3_runFrom_27 (Or.inl ⟨rfl, rfl⟩) mk_3_48 (by decide) me_19 rfl rfl rfl rfl rfl rfl (hd_1_3 _) ?_
          intro K1 hK1
          rw [hK1]
          refine gp_istore (ls' := [some (.ref _), some (.int _), some (.int _), some (.int _), some (.int _), some (.int _), none, none, none]) dX3_runFrom_30 rfl (Nat.le_of_ble_eq_true rfl) ?_
          refine gp_iload dX3_runFrom_32 rfl ?_
          refine gp_call (kind := 0) (args := [.int _]) (rest := _) dX3_runFrom_34 (Or.inl ⟨rfl, rfl⟩) mk_3_38 (by decide) me_102 rfl rfl rfl rfl rfl rfl (ok_X8_isKind _ _ _ _) rfl ?_
          refine gp_ifc (t := 42) dX3_runFrom_37 (by decide) c1_ne (fun h5 => ?_) (fun h5 => ?_)
          · refine gp_gs dX3_runFrom_42 rfl ?_
            refine gp_iload_n dX3_runFrom_45 rfl ?_
            refine gp_pu (st' := .int (7) :: _) dX3_runFrom_46 rfl ?_
            refine gp_pu (st' := .int _ :: _) dX3_runFrom_48 rfl ?_
            refine gp_iload dX3_runFrom_49 rfl ?_
            refine gp_pu (st' := .int _ :: _) dX3_runFrom_51 rfl ?_
            refine gp_iacv (y := (40)) dX3_runFrom_52 rfl (by decide) (by decide) ?_
            refine gp_istore (ls' := [some (.ref _), some (.int _), some (.int _), some (.int _), some (.int _), some (.int _), some (.int _), none, none]) dX3_runFrom_53 rfl (Nat.le_of_ble_eq_true rfl) ?_
            refine gp_gs dX3_runFrom_55 rfl ?_
            refine gp_iload dX3_runFrom_58 rfl ?_
            refine gp_iacv (y := (1)) dX3_runFrom_60 rfl (by decide) (by decide) ?_
            refine gp_istore (ls' := [some (.ref _), some (.int _), some (.int _), some (.int _), some (.int _), some (.int _), some (.int _), some (.int _), none]) dX3_runFrom_61 rfl (Nat.le_of_ble_eq_true rfl) ?_
            refine gp_iload dX3_runFrom_63 rfl ?_
            refine gp_pu (st' := .int (1) :: _) dX3_runFrom_65 rfl ?_
            refine gp_pu (st' := .int _ :: _) dX3_runFrom_66 rfl ?_
            refine gp_istore (ls' := [some (.ref _), some (.int _), some (.int _), some (.int _), some (.int _), some (.int _), some (.int _), some (.int _), some (.int _)]) dX3_runFrom_67 rfl (Nat.le_of_ble_eq_true rfl) ?_
            refine gp_aload_n dX3_runFrom_69 rfl ?_
            refine gp_iload dX3_runFrom_70 rfl ?_
            refine gp_callX (kind := 1) (args := [.ref _, .int _]) (rest := _) dX3_runFrom_72 (Or.inr (Or.inl ⟨rfl, rfl⟩)) mk_3_52 (by decide) me_18 rfl rfl rfl rfl rfl (mm_rc_of (by first | rfl | assumption | (simp only [*]; done))) (ct_note _ (by omega) h.1) ?_
            intro K2 hK2
            rw [hK2]
            have hm := h.nls [40]
            rw [show ([40] : List Int32).length = 1 from rfl] at hm
            refine gp_iload dX3_runFrom_75 rfl ?_
            refine gp_ls (t := 258) dX3_runFrom_77 (by decide) rfl ?_
            refine gp_aload_n dX3_runFrom_258 rfl ?_
            refine gp_pu (st' := .int (1) :: _) dX3_runFrom_259 rfl ?_
            refine gp_iload dX3_runFrom_260 rfl ?_
            refine gp_iload_n dX3_runFrom_262 rfl ?_
            refine gp_pu (st' := .int (1) :: _) dX3_runFrom_263 rfl ?_
            refine gp_pu (st' := .int _ :: _) dX3_runFrom_264 rfl ?_
            refine gp_iload dX3_runFrom_265 rfl ?_
            refine gp_callX (kind := 0) (args := [.ref _, .int _, .int _, .int _, .int _]) (rest := _) dX3_runFrom_267 (Or.inl ⟨rfl, rfl⟩) mk_3_31 (by decide) me_20 rfl rfl rfl rfl rfl rfl (rn_1_1_3 _ hm (by omega) (d_inc hd (by decide) (by decide))) ?_
            intro K3 hK3
            rw [hK3]
            refine gp_iret dX3_runFrom_270 rfl ?_
            exact pX.mk rfl (nls_app [40] J r [11, 20, 10])
          · exact absurd (by decide) h5
        · exact absurd (by decide) h4

set_option maxHeartbeats 400000 in
theorem rn_2_3_3 (d : Nat) {m a x dd : Int32} {r : Nat} (h : mvs J 3 m a r) (hr : r + 7 ≤ 20) (hd : 0 ≤ dd.toInt ∧ dd.toInt + 4 ≤ 12) : cP (d + 7) 20 [.ref 71, .int 2, .int 3, .int x, .int dd] (mm_sh, mm_R, J, L) (pX (some (.int (((((x + 1) + m) + a) * 2) ^^^ (((x - a) + m) + a)))) L (fun K => K = nls J r [12, 40, 11, 20, 10, 20, 10])) := by
  refine cP.of_gP (d := d + 6) me_20 ⟨Nat.le_of_ble_eq_true rfl, rfl⟩ ?_
  show gP mm_cs0 _ _ _ _ _ _ [some (.ref _), some (.int _), some (.int _), some (.int _), some (.int _), none, none, none, none] [] _ _
  refine gp_iload dX3_runFrom_0 rfl ?_
  refine gp_pu (st' := .int (12) :: _) dX3_runFrom_2 rfl ?_
  refine gp_icc (t := 23) dX3_runFrom_4 (by decide) c2_gt (fun h1 => ?_) (fun h1 => ?_)
  · exact absurd h1 (d_12 hd (by decide))
  · have h1' := Int32.not_lt.mp h1
    refine gp_iload_n dX3_runFrom_7 rfl ?_
    refine gp_ifc (t := 23) dX3_runFrom_8 (by decide) c1_lt (fun h2 => ?_) (fun h2 => ?_)
    · exact absurd h2 (by decide)
    · have h2' := Int32.not_lt.mp h2
      refine gp_iload_n dX3_runFrom_11 rfl ?_
      refine gp_pu (st' := .int (3) :: _) dX3_runFrom_12 rfl ?_
      refine gp_icc (t := 23) dX3_runFrom_13 (by decide) c2_ge (fun h3 => ?_) (fun h3 => ?_)
      · exact absurd h3 (by decide)
      · have h3' := Int32.not_le.mp h3
        refine gp_iload_n dX3_runFrom_16 rfl ?_
        refine gp_call (kind := 0) (args := [.int _]) (rest := _) dX3_runFrom_17 (Or.inl ⟨rfl, rfl⟩) mk_3_38 (by decide) me_102 rfl rfl rfl rfl rfl rfl (ok_X8_isKind _ _ _ _) rfl ?_
        refine gp_ifc (t := 25) dX3_runFrom_20 (by decide) c1_ne (fun h4 => ?_) (fun h4 => ?_)
        · refine gp_iload_n dX3_runFrom_25 rfl ?_
          refine gp_iload_n dX3_runFrom_26 rfl ?_
          refine gp_callX (kind := 0) (args := [.int _, .int _]) (rest := _) dX3_runFrom_27 (Or.inl ⟨rfl, rfl⟩) mk_3_48 (by decide) me_19 rfl rfl rfl rfl rfl rfl (hd_2_3 _) ?_
          intro K1 hK1
          rw [hK1]
          refine gp_istore (ls' := [some (.ref _), some (.int _), some (.int _), some (.int _), some (.int _), some (.int _), none, none, none]) dX3_runFrom_30 rfl (Nat.le_of_ble_eq_true rfl) ?_
          refine gp_iload dX3_runFrom_32 rfl ?_
          refine gp_call (kind := 0) (args := [.int _]) (rest := _) dX3_runFrom_34 (Or.inl ⟨rfl, rfl⟩) mk_3_38 (by decide) me_102 rfl rfl rfl rfl rfl rfl (ok_X8_isKind _ _ _ _) rfl ?_
          refine gp_ifc (t := 42) dX3_runFrom_37 (by decide) c1_ne (fun h5 => ?_) (fun h5 => ?_)
          · refine gp_gs dX3_runFrom_42 rfl ?_
            refine gp_iload_n dX3_runFrom_45 rfl ?_
            refine gp_pu (st' := .int (7) :: _) dX3_runFrom_46 rfl ?_
            refine gp_pu (st' := .int _ :: _) dX3_runFrom_48 rfl ?_
            refine gp_iload dX3_runFrom_49 rfl ?_
            refine gp_pu (st' := .int _ :: _) dX3_runFrom_51 rfl ?_
            refine gp_iacv (y := (12)) dX3_runFrom_52 rfl (by decide) (by decide) ?_
            refine gp_istore (ls' := [some (.ref _), some (.int _), some (.int _), some (.int _), some (.int _), some (.int _), some (.int _), none, none]) dX3_runFrom_53 rfl (Nat.le_of_ble_eq_true rfl) ?_
            refine gp_gs dX3_runFrom_55 rfl ?_
            refine gp_iload dX3_runFrom_58 rfl ?_
            refine gp_iacv (y := (-1)) dX3_runFrom_60 rfl (by decide) (by decide) ?_
            refine gp_istore (ls' := [some (.ref _), some (.int _), some (.int _), some (.int _), some (.int _), some (.int _), some (.int _), some (.int _), none]) dX3_runFrom_61 rfl (Nat.le_of_ble_eq_true rfl) ?_
            refine gp_iload dX3_runFrom_63 rfl ?_
            refine gp_pu (st' := .int (1) :: _) dX3_runFrom_65 rfl ?_
            refine gp_pu (st' := .int _ :: _) dX3_runFrom_66 rfl ?_
            refine gp_istore (ls' := [some (.ref _), some (.int _), some (.int _), some (.int _), some (.int _), some (.int _), some (.int _), some (.int _), some (.int _)]) dX3_runFrom_67 rfl (Nat.le_of_ble_eq_true rfl) ?_
            refine gp_aload_n dX3_runFrom_69 rfl ?_
            refine gp_iload dX3_runFrom_70 rfl ?_
            refine gp_callX (kind := 1) (args := [.ref _, .int _]) (rest := _) dX3_runFrom_72 (Or.inr (Or.inl ⟨rfl, rfl⟩)) mk_3_52 (by decide) me_18 rfl rfl rfl rfl rfl (mm_rc_of (by first | rfl | assumption | (simp only [*]; done))) (ct_note _ (by omega) h.1) ?_
            intro K2 hK2
            rw [hK2]
            have hm := h.nls [12]
            rw [show ([12] : List Int32).length = 1 from rfl] at hm
            refine gp_iload dX3_runFrom_75 rfl ?_
            refine gp_ls (t := 198) dX3_runFrom_77 (by decide) rfl ?_
            refine gp_aload_n dX3_runFrom_198 rfl ?_
            refine gp_pu (st' := .int (1) :: _) dX3_runFrom_199 rfl ?_
            refine gp_aload_n dX3_runFrom_200 rfl ?_
            refine gp_giv dX3_runFrom_201 mf_3_21 (by decide) (by first | rfl | assumption | (simp only [*]; done)) (by first | exact hm.2.1 | exact hm.2.2.1 | exact hm.2.2.2 | exact rfl) ?_
            refine gp_iload_n dX3_runFrom_204 rfl ?_
            refine gp_iload dX3_runFrom_205 rfl ?_
            refine gp_callX (kind := 0) (args := [.ref _, .int _, .int _, .int _, .int _]) (rest := _) dX3_runFrom_207 (Or.inl ⟨rfl, rfl⟩) mk_3_31 (by decide) me_20 rfl rfl rfl rfl rfl rfl (rn_1_3_3 _ hm (by omega) (d_inc hd (by decide) (by decide))) ?_
            intro K3 hK3
            rw [hK3]
            have hm2 := hm.nls [40, 11, 20, 10]
            rw [show ([40, 11, 20, 10] : List Int32).length = 4 from rfl] at hm2
            refine gp_aload_n dX3_runFrom_210 rfl ?_
            refine gp_pu (st' := .int (0) :: _) dX3_runFrom_211 rfl ?_
            refine gp_aload_n dX3_runFrom_212 rfl ?_
            refine gp_giv dX3_runFrom_213 mf_3_21 (by decide) (by first | rfl | assumption | (simp only [*]; done)) (by first | exact hm2.2.1 | exact hm2.2.2.1 | exact hm2.2.2.2 | exact hm.2.1 | exact hm.2.2.1 | exact hm.2.2.2 | exact rfl) ?_
            refine gp_iload_n dX3_runFrom_216 rfl ?_
            refine gp_aload_n dX3_runFrom_217 rfl ?_
            refine gp_giv dX3_runFrom_218 mf_3_28 (by decide) (by first | rfl | assumption | (simp only [*]; done)) (by first | exact hm2.2.1 | exact hm2.2.2.1 | exact hm2.2.2.2 | exact hm.2.1 | exact hm.2.2.1 | exact hm.2.2.2 | exact rfl) ?_
            refine gp_pu (st' := .int _ :: _) dX3_runFrom_221 rfl ?_
            refine gp_iload dX3_runFrom_222 rfl ?_
            refine gp_callX (kind := 0) (args := [.ref _, .int _, .int _, .int _, .int _]) (rest := _) dX3_runFrom_224 (Or.inl ⟨rfl, rfl⟩) mk_3_31 (by decide) me_20 rfl rfl rfl rfl rfl rfl (rn_0_3 _ hm2 (by omega) (d_inc hd (by decide) (by decide))) ?_
            intro K4 hK4
            rw [hK4]
            refine gp_pu (st' := .int _ :: _) dX3_runFrom_227 rfl ?_
            refine gp_iret dX3_runFrom_228 rfl ?_
            (refine pX.mk rfl ?_
             have q1 := nls_app [12] J r [40, 11, 20, 10]
             have q2 := nls_app ([12] ++ [40, 11, 20, 10]) J r [20, 10]
             rw [← q1] at q2
             rw [show ([12] ++ [40, 11, 20, 10] : List Int32).length = 5 from rfl, show ([12] : List Int32).length = 1 from rfl] at q2
             exact q2)
          · exact absurd (by decide) h5
        · exact absurd (by decide) h4

set_option maxHeartbeats 400000 in
theorem rn_0_4 (d : Nat) {m a x dd : Int32} {k0 : Int32} {r : Nat} (h : mvs J k0 m a r) (hr : r + 2 ≤ 20) (hd : 0 ≤ dd.toInt ∧ dd.toInt + 1 ≤ 12) : cP (d + 4) 20 [.ref 71, .int 0, .int 4, .int x, .int dd] (mm_sh, mm_R, J, L) (pX (some (.int ((x + m) - m))) L (fun K => K = nls J r [51, 10])) := by
  refine cP.of_gP (d := d + 3) me_20 ⟨Nat.le_of_ble_eq_true rfl, rfl⟩ ?_
  show gP mm_cs0 _ _ _ _ _ _ [some (.ref _), some (.int _), some (.int _), some (.int _), some (.int _), none, none, none, none] [] _ _
  refine gp_iload dX3_runFrom_0 rfl ?_
  refine gp_pu (st' := .int (12) :: _) dX3_runFrom_2 rfl ?_
  refine gp_icc (t := 23) dX3_runFrom_4 (by decide) c2_gt (fun h1 => ?_) (fun h1 => ?_)
  · exact absurd h1 (d_12 hd (by decide))
  · have h1' := Int32.not_lt.mp h1
    refine gp_iload_n dX3_runFrom_7 rfl ?_
    refine gp_ifc (t := 23) dX3_runFrom_8 (by decide) c1_lt (fun h2 => ?_) (fun h2 => ?_)
    · exact absurd h2 (by decide)
    · have h2' := Int32.not_lt.mp h2
      refine gp_iload_n dX3_runFrom_11 rfl ?_
      refine gp_pu (st' := .int (3) :: _) dX3_runFrom_12 rfl ?_
      refine gp_icc (t := 23) dX3_runFrom_13 (by decide) c2_ge (fun h3 => ?_) (fun h3 => ?_)
      · exact absurd h3 (by decide)
      · have h3' := Int32.not_le.mp h3
        refine gp_iload_n dX3_runFrom_16 rfl ?_
        refine gp_call (kind := 0) (args := [.int _]) (rest := _) dX3_runFrom_17 (Or.inl ⟨rfl, rfl⟩) mk_3_38 (by decide) me_102 rfl rfl rfl rfl rfl rfl (ok_X8_isKind _ _ _ _) rfl ?_
        refine gp_ifc (t := 25) dX3_runFrom_20 (by decide) c1_ne (fun h4 => ?_) (fun h4 => ?_)
        · refine gp_iload_n dX3_runFrom_25 rfl ?_
          refine gp_iload_n dX3_runFrom_26 rfl ?_
          refine gp_callX (kind := 0) (args := [.int _, .int _]) (rest := _) dX3_runFrom_27 (Or.inl ⟨rfl, rfl⟩) mk_3_48 (by decide) me_19 rfl rfl rfl rfl rfl rfl (hd_0_4 _) ?_
          intro K1 hK1
          rw [hK1]
          refine gp_istore (ls' := [some (.ref _), some (.int _), some (.int _), some (.int _), some (.int _), some (.int _), none, none, none]) dX3_runFrom_30 rfl (Nat.le_of_ble_eq_true rfl) ?_
          refine gp_iload dX3_runFrom_32 rfl ?_
          refine gp_call (kind := 0) (args := [.int _]) (rest := _) dX3_runFrom_34 (Or.inl ⟨rfl, rfl⟩) mk_3_38 (by decide) me_102 rfl rfl rfl rfl rfl rfl (ok_X8_isKind _ _ _ _) rfl ?_
          refine gp_ifc (t := 42) dX3_runFrom_37 (by decide) c1_ne (fun h5 => ?_) (fun h5 => ?_)
          · refine gp_gs dX3_runFrom_42 rfl ?_
            refine gp_iload_n dX3_runFrom_45 rfl ?_
            refine gp_pu (st' := .int (7) :: _) dX3_runFrom_46 rfl ?_
            refine gp_pu (st' := .int _ :: _) dX3_runFrom_48 rfl ?_
            refine gp_iload dX3_runFrom_49 rfl ?_
            refine gp_pu (st' := .int _ :: _) dX3_runFrom_51 rfl ?_
            refine gp_iacv (y := (51)) dX3_runFrom_52 rfl (by decide) (by decide) ?_
            refine gp_istore (ls' := [some (.ref _), some (.int _), some (.int _), some (.int _), some (.int _), some (.int _), some (.int _), none, none]) dX3_runFrom_53 rfl (Nat.le_of_ble_eq_true rfl) ?_
            refine gp_gs dX3_runFrom_55 rfl ?_
            refine gp_iload dX3_runFrom_58 rfl ?_
            refine gp_iacv (y := (0)) dX3_runFrom_60 rfl (by decide) (by decide) ?_
            refine gp_istore (ls' := [some (.ref _), some (.int _), some (.int _), some (.int _), some (.int _), some (.int _), some (.int _), some (.int _), none]) dX3_runFrom_61 rfl (Nat.le_of_ble_eq_true rfl) ?_
            refine gp_iload dX3_runFrom_63 rfl ?_
            refine gp_pu (st' := .int (1) :: _) dX3_runFrom_65 rfl ?_
            refine gp_pu (st' := .int _ :: _) dX3_runFrom_66 rfl ?_
            refine gp_istore (ls' := [some (.ref _), some (.int _), some (.int _), some (.int _), some (.int _), some (.int _), some (.int _), some (.int _), some (.int _)]) dX3_runFrom_67 rfl (Nat.le_of_ble_eq_true rfl) ?_
            refine gp_aload_n dX3_runFrom_69 rfl ?_
            refine gp_iload dX3_runFrom_70 rfl ?_
            refine gp_callX (kind := 1) (args := [.ref _, .int _]) (rest := _) dX3_runFrom_72 (Or.inr (Or.inl ⟨rfl, rfl⟩)) mk_3_52 (by decide) me_18 rfl rfl rfl rfl rfl (mm_rc_of (by first | rfl | assumption | (simp only [*]; done))) (ct_note _ (by omega) h.1) ?_
            intro K2 hK2
            rw [hK2]
            have hm := h.nls [51]
            rw [show ([51] : List Int32).length = 1 from rfl] at hm
            refine gp_iload dX3_runFrom_75 rfl ?_
            refine gp_ls (t := 283) dX3_runFrom_77 (by decide) rfl ?_
            refine gp_aload_n dX3_runFrom_283 rfl ?_
            refine gp_pu (st' := .int (0) :: _) dX3_runFrom_284 rfl ?_
            refine gp_iload dX3_runFrom_285 rfl ?_
            refine gp_iload_n dX3_runFrom_287 rfl ?_
            refine gp_iload dX3_runFrom_288 rfl ?_
            refine gp_callX (kind := 0) (args := [.ref _, .int _, .int _, .int _, .int _]) (rest := _) dX3_runFrom_290 (Or.inl ⟨rfl, rfl⟩) mk_3_31 (by decide) me_20 rfl rfl rfl rfl rfl rfl (rn_0_0 _ hm (by omega) (d_inc hd (by decide) (by decide))) ?_
            intro K3 hK3
            rw [hK3]
            refine gp_aload_n dX3_runFrom_293 rfl ?_
            refine gp_giv dX3_runFrom_294 mf_3_22 (by decide) (by first | rfl | assumption | (simp only [*]; done)) (by first | exact hm.2.1 | exact hm.2.2.1 | exact hm.2.2.2 | exact rfl) ?_
            refine gp_pu (st' := .int _ :: _) dX3_runFrom_297 rfl ?_
            refine gp_iret dX3_runFrom_298 rfl ?_
            exact pX.mk rfl (nls_app [51] J r [10])
          · exact absurd (by decide) h5
        · exact absurd (by decide) h4

set_option maxHeartbeats 400000 in
theorem rn_1_4_4 (d : Nat) {m a x dd : Int32} {r : Nat} (h : mvs J 4 m a r) (hr : r + 3 ≤ 20) (hd : 0 ≤ dd.toInt ∧ dd.toInt + 2 ≤ 12) : cP (d + 5) 20 [.ref 71, .int 1, .int 4, .int x, .int dd] (mm_sh, mm_R, J, L) (pX (some (.int (((x + m) - m) * 2))) L (fun K => K = nls J r [11, 51, 10])) := by
  refine cP.of_gP (d := d + 4) me_20 ⟨Nat.le_of_ble_eq_true rfl, rfl⟩ ?_
  show gP mm_cs0 _ _ _ _ _ _ [some (.ref _), some (.int _), some (.int _), some (.int _), some (.int _), none, none, none, none] [] _ _
  refine gp_iload dX3_runFrom_0 rfl ?_
  refine gp_pu (st' := .int (12) :: _) dX3_runFrom_2 rfl ?_
  refine gp_icc (t := 23) dX3_runFrom_4 (by decide) c2_gt (fun h1 => ?_) (fun h1 => ?_)
  · exact absurd h1 (d_12 hd (by decide))
  · have h1' := Int32.not_lt.mp h1
    refine gp_iload_n dX3_runFrom_7 rfl ?_
    refine gp_ifc (t := 23) dX3_runFrom_8 (by decide) c1_lt (fun h2 => ?_) (fun h2 => ?_)
    · exact absurd h2 (by decide)
    · have h2' := Int32.not_lt.mp h2
      refine gp_iload_n dX3_runFrom_11 rfl ?_
      refine gp_pu (st' := .int (3) :: _) dX3_runFrom_12 rfl ?_
      refine gp_icc (t := 23) dX3_runFrom_13 (by decide) c2_ge (fun h3 => ?_) (fun h3 => ?_)
      · exact absurd h3 (by decide)
      · have h3' := Int32.not_le.mp h3
        refine gp_iload_n dX3_runFrom_16 rfl ?_
        refine gp_call (kind := 0) (args := [.int _]) (rest := _) dX3_runFrom_17 (Or.inl ⟨rfl, rfl⟩) mk_3_38 (by decide) me_102 rfl rfl rfl rfl rfl rfl (ok_X8_isKind _ _ _ _) rfl ?_
        refine gp_ifc (t := 25) dX3_runFrom_20 (by decide) c1_ne (fun h4 => ?_) (fun h4 => ?_)
        · refine gp_iload_n dX3_runFrom_25 rfl ?_
          refine gp_iload_n dX3_runFrom_26 rfl ?_
          refine gp_callX (kind := 0) (args := [.int _, .int _]) (rest := _) dX3_runFrom_27 (Or.inl ⟨rfl, rfl⟩) mk_3_48 (by decide) me_19 rfl rfl rfl rfl rfl rfl (hd_1_4 _) ?_
          intro K1 hK1
          rw [hK1]
          refine gp_istore (ls' := [some (.ref _), some (.int _), some (.int _), some (.int _), some (.int _), some (.int _), none, none, none]) dX3_runFrom_30 rfl (Nat.le_of_ble_eq_true rfl) ?_
          refine gp_iload dX3_runFrom_32 rfl ?_
          refine gp_call (kind := 0) (args := [.int _]) (rest := _) dX3_runFrom_34 (Or.inl ⟨rfl, rfl⟩) mk_3_38 (by decide) me_102 rfl rfl rfl rfl rfl rfl (ok_X8_isKind _ _ _ _) rfl ?_
          refine gp_ifc (t := 42) dX3_runFrom_37 (by decide) c1_ne (fun h5 => ?_) (fun h5 => ?_)
          · refine gp_gs dX3_runFrom_42 rfl ?_
            refine gp_iload_n dX3_runFrom_45 rfl ?_
            refine gp_pu (st' := .int (7) :: _) dX3_runFrom_46 rfl ?_
            refine gp_pu (st' := .int _ :: _) dX3_runFrom_48 rfl ?_
            refine gp_iload dX3_runFrom_49 rfl ?_
            refine gp_pu (st' := .int _ :: _) dX3_runFrom_51 rfl ?_
            refine gp_iacv (y := (11)) dX3_runFrom_52 rfl (by decide) (by decide) ?_
            refine gp_istore (ls' := [some (.ref _), some (.int _), some (.int _), some (.int _), some (.int _), some (.int _), some (.int _), none, none]) dX3_runFrom_53 rfl (Nat.le_of_ble_eq_true rfl) ?_
            refine gp_gs dX3_runFrom_55 rfl ?_
            refine gp_iload dX3_runFrom_58 rfl ?_
            refine gp_iacv (y := (-1)) dX3_runFrom_60 rfl (by decide) (by decide) ?_
            refine gp_istore (ls' := [some (.ref _), some (.int _), some (.int _), some (.int _), some (.int _), some (.int _), some (.int _), some (.int _), none]) dX3_runFrom_61 rfl (Nat.le_of_ble_eq_true rfl) ?_
            refine gp_iload dX3_runFrom_63 rfl ?_
            refine gp_pu (st' := .int (1) :: _) dX3_runFrom_65 rfl ?_
            refine gp_pu (st' := .int _ :: _) dX3_runFrom_66 rfl ?_
            refine gp_istore (ls' := [some (.ref _), some (.int _), some (.int _), some (.int _), some (.int _), some (.int _), some (.int _), some (.int _), some (.int _)]) dX3_runFrom_67 rfl (Nat.le_of_ble_eq_true rfl) ?_
            refine gp_aload_n dX3_runFrom_69 rfl ?_
            refine gp_iload dX3_runFrom_70 rfl ?_
            refine gp_callX (kind := 1) (args := [.ref _, .int _]) (rest := _) dX3_runFrom_72 (Or.inr (Or.inl ⟨rfl, rfl⟩)) mk_3_52 (by decide) me_18 rfl rfl rfl rfl rfl (mm_rc_of (by first | rfl | assumption | (simp only [*]; done))) (ct_note _ (by omega) h.1) ?_
            intro K2 hK2
            rw [hK2]
            have hm := h.nls [11]
            rw [show ([11] : List Int32).length = 1 from rfl] at hm
            refine gp_iload dX3_runFrom_75 rfl ?_
            refine gp_ls (t := 183) dX3_runFrom_77 (by decide) rfl ?_
            refine gp_aload_n dX3_runFrom_183 rfl ?_
            refine gp_pu (st' := .int (0) :: _) dX3_runFrom_184 rfl ?_
            refine gp_aload_n dX3_runFrom_185 rfl ?_
            refine gp_giv dX3_runFrom_186 mf_3_21 (by decide) (by first | rfl | assumption | (simp only [*]; done)) (by first | exact hm.2.1 | exact hm.2.2.1 | exact hm.2.2.2 | exact rfl) ?_
            refine gp_iload_n dX3_runFrom_189 rfl ?_
            refine gp_iload dX3_runFrom_190 rfl ?_
            refine gp_callX (kind := 0) (args := [.ref _, .int _, .int _, .int _, .int _]) (rest := _) dX3_runFrom_192 (Or.inl ⟨rfl, rfl⟩) mk_3_31 (by decide) me_20 rfl rfl rfl rfl rfl rfl (rn_0_4 _ hm (by omega) (d_inc hd (by decide) (by decide))) ?_
            intro K3 hK3
            rw [hK3]
            refine gp_pu (st' := .int (2) :: _) dX3_runFrom_195 rfl ?_
            refine gp_pu (st' := .int _ :: _) dX3_runFrom_196 rfl ?_
            refine gp_iret dX3_runFrom_197 rfl ?_
            exact pX.mk rfl (nls_app [11] J r [51, 10])
          · exact absurd (by decide) h5
        · exact absurd (by decide) h4

set_option maxHeartbeats 400000 in
theorem rn_2_0_4 (d : Nat) {m a x dd : Int32} {r : Nat} (h : mvs J 4 m a r) (hr : r + 6 ≤ 20) (hd : 0 ≤ dd.toInt ∧ dd.toInt + 3 ≤ 12) : cP (d + 6) 20 [.ref 71, .int 2, .int 0, .int x, .int dd] (mm_sh, mm_R, J, L) (pX (some (.int ((((x + m) - m) * 2) ^^^ (((x - a) + m) - m)))) L (fun K => K = nls J r [12, 11, 51, 10, 51, 10])) := by
  refine cP.of_gP (d := d + 5) me_20 ⟨Nat.le_of_ble_eq_true rfl, rfl⟩ ?_
  show gP mm_cs0 _ _ _ _ _ _ [some (.ref _), some (.int _), some (.int _), some (.int _), some (.int _), none, none, none, none] [] _ _
  refine gp_iload dX3_runFrom_0 rfl ?_
  refine gp_pu (st' := .int (12) :: _) dX3_runFrom_2 rfl ?_
  refine gp_icc (t := 23) dX3_runFrom_4 (by decide) c2_gt (fun h1 => ?_) (fun h1 => ?_)
  · exact absurd h1 (d_12 hd (by decide))
  · have h1' := Int32.not_lt.mp h1
    refine gp_iload_n dX3_runFrom_7 rfl ?_
    refine gp_ifc (t := 23) dX3_runFrom_8 (by decide) c1_lt (fun h2 => ?_) (fun h2 => ?_)
    · exact absurd h2 (by decide)
    · have h2' := Int32.not_lt.mp h2
      refine gp_iload_n dX3_runFrom_11 rfl ?_
      refine gp_pu (st' := .int (3) :: _) dX3_runFrom_12 rfl ?_
      refine gp_icc (t := 23) dX3_runFrom_13 (by decide) c2_ge (fun h3 => ?_) (fun h3 => ?_)
      · exact absurd h3 (by decide)
      · have h3' := Int32.not_le.mp h3
        refine gp_iload_n dX3_runFrom_16 rfl ?_
        refine gp_call (kind := 0) (args := [.int _]) (rest := _) dX3_runFrom_17 (Or.inl ⟨rfl, rfl⟩) mk_3_38 (by decide) me_102 rfl rfl rfl rfl rfl rfl (ok_X8_isKind _ _ _ _) rfl ?_
        refine gp_ifc (t := 25) dX3_runFrom_20 (by decide) c1_ne (fun h4 => ?_) (fun h4 => ?_)
        · refine gp_iload_n dX3_runFrom_25 rfl ?_
          refine gp_iload_n dX3_runFrom_26 rfl ?_
          refine gp_callX (kind := 0) (args := [.int _, .int _]) (rest := _) dX3_runFrom_27 (Or.inl ⟨rfl, rfl⟩) mk_3_48 (by decide) me_19 rfl rfl rfl rfl rfl rfl (hd_2_0 _) ?_
          intro K1 hK1
          rw [hK1]
          refine gp_istore (ls' := [some (.ref _), some (.int _), some (.int _), some (.int _), some (.int _), some (.int _), none, none, none]) dX3_runFrom_30 rfl (Nat.le_of_ble_eq_true rfl) ?_
          refine gp_iload dX3_runFrom_32 rfl ?_
          refine gp_call (kind := 0) (args := [.int _]) (rest := _) dX3_runFrom_34 (Or.inl ⟨rfl, rfl⟩) mk_3_38 (by decide) me_102 rfl rfl rfl rfl rfl rfl (ok_X8_isKind _ _ _ _) rfl ?_
          refine gp_ifc (t := 42) dX3_runFrom_37 (by decide) c1_ne (fun h5 => ?_) (fun h5 => ?_)
          · refine gp_gs dX3_runFrom_42 rfl ?_
            refine gp_iload_n dX3_runFrom_45 rfl ?_
            refine gp_pu (st' := .int (7) :: _) dX3_runFrom_46 rfl ?_
            refine gp_pu (st' := .int _ :: _) dX3_runFrom_48 rfl ?_
            refine gp_iload dX3_runFrom_49 rfl ?_
            refine gp_pu (st' := .int _ :: _) dX3_runFrom_51 rfl ?_
            refine gp_iacv (y := (12)) dX3_runFrom_52 rfl (by decide) (by decide) ?_
            refine gp_istore (ls' := [some (.ref _), some (.int _), some (.int _), some (.int _), some (.int _), some (.int _), some (.int _), none, none]) dX3_runFrom_53 rfl (Nat.le_of_ble_eq_true rfl) ?_
            refine gp_gs dX3_runFrom_55 rfl ?_
            refine gp_iload dX3_runFrom_58 rfl ?_
            refine gp_iacv (y := (-1)) dX3_runFrom_60 rfl (by decide) (by decide) ?_
            refine gp_istore (ls' := [some (.ref _), some (.int _), some (.int _), some (.int _), some (.int _), some (.int _), some (.int _), some (.int _), none]) dX3_runFrom_61 rfl (Nat.le_of_ble_eq_true rfl) ?_
            refine gp_iload dX3_runFrom_63 rfl ?_
            refine gp_pu (st' := .int (1) :: _) dX3_runFrom_65 rfl ?_
            refine gp_pu (st' := .int _ :: _) dX3_runFrom_66 rfl ?_
            refine gp_istore (ls' := [some (.ref _), some (.int _), some (.int _), some (.int _), some (.int _), some (.int _), some (.int _), some (.int _), some (.int _)]) dX3_runFrom_67 rfl (Nat.le_of_ble_eq_true rfl) ?_
            refine gp_aload_n dX3_runFrom_69 rfl ?_
            refine gp_iload dX3_runFrom_70 rfl ?_
            refine gp_callX (kind := 1) (args := [.ref _, .int _]) (rest := _) dX3_runFrom_72 (Or.inr (Or.inl ⟨rfl, rfl⟩)) mk_3_52 (by decide) me_18 rfl rfl rfl rfl rfl (mm_rc_of (by first | rfl | assumption | (simp only [*]; done))) (ct_note _ (by omega) h.1) ?_
            intro K2 hK2
            rw [hK2]
            have hm := h.nls [12]
            rw [show ([12] : List Int32).length = 1 from rfl] at hm
            refine gp_iload dX3_runFrom_75 rfl ?_
            refine gp_ls (t := 198) dX3_runFrom_77 (by decide) rfl ?_
            refine gp_aload_n dX3_runFrom_198 rfl ?_
            refine gp_pu (st' := .int (1) :: _) dX3_runFrom_199 rfl ?_
            refine gp_aload_n dX3_runFrom_200 rfl ?_
            refine gp_giv dX3_runFrom_201 mf_3_21 (by decide) (by first | rfl | assumption | (simp only [*]; done)) (by first | exact hm.2.1 | exact hm.2.2.1 | exact hm.2.2.2 | exact rfl) ?_
            refine gp_iload_n dX3_runFrom_204 rfl ?_
            refine gp_iload dX3_runFrom_205 rfl ?_
            refine gp_callX (kind := 0) (args := [.ref _, .int _, .int _, .int _, .int _]) (rest := _) dX3_runFrom_207 (Or.inl ⟨rfl, rfl⟩) mk_3_31 (by decide) me_20 rfl rfl rfl rfl rfl rfl (rn_1_4_4 _ hm (by omega) (d_inc hd (by decide) (by decide))) ?_
            intro K3 hK3
            rw [hK3]
            have hm2 := hm.nls [11, 51, 10]
            rw [show ([11, 51, 10] : List Int32).length = 3 from rfl] at hm2
            refine gp_aload_n dX3_runFrom_210 rfl ?_
            refine gp_pu (st' := .int (0) :: _) dX3_runFrom_211 rfl ?_
            refine gp_aload_n dX3_runFrom_212 rfl ?_
            refine gp_giv dX3_runFrom_213 mf_3_21 (by decide) (by first | rfl | assumption | (simp only [*]; done)) (by first | exact hm2.2.1 | exact hm2.2.2.1 | exact hm2.2.2.2 | exact hm.2.1 | exact hm.2.2.1 | exact hm.2.2.2 | exact rfl) ?_
            refine gp_iload_n dX3_runFrom_216 rfl ?_
            refine gp_aload_n dX3_runFrom_217 rfl ?_
            refine gp_giv dX3_runFrom_218 mf_3_28 (by decide) (by first | rfl | assumption | (simp only [*]; done)) (by first | exact hm2.2.1 | exact hm2.2.2.1 | exact hm2.2.2.2 | exact hm.2.1 | exact hm.2.2.1 | exact hm.2.2.2 | exact rfl) ?_
            refine gp_pu (st' := .int _ :: _) dX3_runFrom_221 rfl ?_
            refine gp_iload dX3_runFrom_222 rfl ?_
            refine gp_callX (kind := 0) (args := [.ref _, .int _, .int _, .int _, .int _]) (rest := _) dX3_runFrom_224 (Or.inl ⟨rfl, rfl⟩) mk_3_31 (by decide) me_20 rfl rfl rfl rfl rfl rfl (rn_0_4 _ hm2 (by omega) (d_inc hd (by decide) (by decide))) ?_
            intro K4 hK4
            rw [hK4]
            refine gp_pu (st' := .int _ :: _) dX3_runFrom_227 rfl ?_
            refine gp_iret dX3_runFrom_228 rfl ?_
            (refine pX.mk rfl ?_
             have q1 := nls_app [12] J r [11, 51, 10]
             have q2 := nls_app ([12] ++ [11, 51, 10]) J r [51, 10]
             rw [← q1] at q2
             rw [show ([12] ++ [11, 51, 10] : List Int32).length = 4 from rfl, show ([12] : List Int32).length = 1 from rfl] at q2
             exact q2)
          · exact absurd (by decide) h5
        · exact absurd (by decide) h4

set_option maxHeartbeats 400000 in
theorem rn_2_4_4 (d : Nat) {m a x dd : Int32} {r : Nat} (h : mvs J 4 m a r) (hr : r + 7 ≤ 20) (hd : 0 ≤ dd.toInt ∧ dd.toInt + 4 ≤ 12) : cP (d + 7) 20 [.ref 71, .int 2, .int 4, .int x, .int dd] (mm_sh, mm_R, J, L) (pX (some (.int (-((((x + m) - m) * 2) ^^^ (((x - a) + m) - m))))) L (fun K => K = nls J r [50, 12, 11, 51, 10, 51, 10])) := by
  refine cP.of_gP (d := d + 6) me_20 ⟨Nat.le_of_ble_eq_true rfl, rfl⟩ ?_
  show gP mm_cs0 _ _ _ _ _ _ [some (.ref _), some (.int _), some (.int _), some (.int _), some (.int _), none, none, none, none] [] _ _
  refine gp_iload dX3_runFrom_0 rfl ?_
  refine gp_pu (st' := .int (12) :: _) dX3_runFrom_2 rfl ?_
  refine gp_icc (t := 23) dX3_runFrom_4 (by decide) c2_gt (fun h1 => ?_) (fun h1 => ?_)
  · exact absurd h1 (d_12 hd (by decide))
  · have h1' := Int32.not_lt.mp h1
    refine gp_iload_n dX3_runFrom_7 rfl ?_
    refine gp_ifc (t := 23) dX3_runFrom_8 (by decide) c1_lt (fun h2 => ?_) (fun h2 => ?_)
    · exact absurd h2 (by decide)
    · have h2' := Int32.not_lt.mp h2
      refine gp_iload_n dX3_runFrom_11 rfl ?_
      refine gp_pu (st' := .int (3) :: _) dX3_runFrom_12 rfl ?_
      refine gp_icc (t := 23) dX3_runFrom_13 (by decide) c2_ge (fun h3 => ?_) (fun h3 => ?_)
      · exact absurd h3 (by decide)
      · have h3' := Int32.not_le.mp h3
        refine gp_iload_n dX3_runFrom_16 rfl ?_
        refine gp_call (kind := 0) (args := [.int _]) (rest := _) dX3_runFrom_17 (Or.inl ⟨rfl, rfl⟩) mk_3_38 (by decide) me_102 rfl rfl rfl rfl rfl rfl (ok_X8_isKind _ _ _ _) rfl ?_
        refine gp_ifc (t := 25) dX3_runFrom_20 (by decide) c1_ne (fun h4 => ?_) (fun h4 => ?_)
        · refine gp_iload_n dX3_runFrom_25 rfl ?_
          refine gp_iload_n dX3_runFrom_26 rfl ?_
          refine gp_callX (kind := 0) (args := [.int _, .int _]) (rest := _) dX3_runFrom_27 (Or.inl ⟨rfl, rfl⟩) mk_3_48 (by decide) me_19 rfl rfl rfl rfl rfl rfl (hd_2_4 _) ?_
          intro K1 hK1
          rw [hK1]
          refine gp_istore (ls' := [some (.ref _), some (.int _), some (.int _), some (.int _), some (.int _), some (.int _), none, none, none]) dX3_runFrom_30 rfl (Nat.le_of_ble_eq_true rfl) ?_
          refine gp_iload dX3_runFrom_32 rfl ?_
          refine gp_call (kind := 0) (args := [.int _]) (rest := _) dX3_runFrom_34 (Or.inl ⟨rfl, rfl⟩) mk_3_38 (by decide) me_102 rfl rfl rfl rfl rfl rfl (ok_X8_isKind _ _ _ _) rfl ?_
          refine gp_ifc (t := 42) dX3_runFrom_37 (by decide) c1_ne (fun h5 => ?_) (fun h5 => ?_)
          · refine gp_gs dX3_runFrom_42 rfl ?_
            refine gp_iload_n dX3_runFrom_45 rfl ?_
            refine gp_pu (st' := .int (7) :: _) dX3_runFrom_46 rfl ?_
            refine gp_pu (st' := .int _ :: _) dX3_runFrom_48 rfl ?_
            refine gp_iload dX3_runFrom_49 rfl ?_
            refine gp_pu (st' := .int _ :: _) dX3_runFrom_51 rfl ?_
            refine gp_iacv (y := (50)) dX3_runFrom_52 rfl (by decide) (by decide) ?_
            refine gp_istore (ls' := [some (.ref _), some (.int _), some (.int _), some (.int _), some (.int _), some (.int _), some (.int _), none, none]) dX3_runFrom_53 rfl (Nat.le_of_ble_eq_true rfl) ?_
            refine gp_gs dX3_runFrom_55 rfl ?_
            refine gp_iload dX3_runFrom_58 rfl ?_
            refine gp_iacv (y := (0)) dX3_runFrom_60 rfl (by decide) (by decide) ?_
            refine gp_istore (ls' := [some (.ref _), some (.int _), some (.int _), some (.int _), some (.int _), some (.int _), some (.int _), some (.int _), none]) dX3_runFrom_61 rfl (Nat.le_of_ble_eq_true rfl) ?_
            refine gp_iload dX3_runFrom_63 rfl ?_
            refine gp_pu (st' := .int (1) :: _) dX3_runFrom_65 rfl ?_
            refine gp_pu (st' := .int _ :: _) dX3_runFrom_66 rfl ?_
            refine gp_istore (ls' := [some (.ref _), some (.int _), some (.int _), some (.int _), some (.int _), some (.int _), some (.int _), some (.int _), some (.int _)]) dX3_runFrom_67 rfl (Nat.le_of_ble_eq_true rfl) ?_
            refine gp_aload_n dX3_runFrom_69 rfl ?_
            refine gp_iload dX3_runFrom_70 rfl ?_
            refine gp_callX (kind := 1) (args := [.ref _, .int _]) (rest := _) dX3_runFrom_72 (Or.inr (Or.inl ⟨rfl, rfl⟩)) mk_3_52 (by decide) me_18 rfl rfl rfl rfl rfl (mm_rc_of (by first | rfl | assumption | (simp only [*]; done))) (ct_note _ (by omega) h.1) ?_
            intro K2 hK2
            rw [hK2]
            have hm := h.nls [50]
            rw [show ([50] : List Int32).length = 1 from rfl] at hm
            refine gp_iload dX3_runFrom_75 rfl ?_
            refine gp_ls (t := 271) dX3_runFrom_77 (by decide) rfl ?_
            refine gp_aload_n dX3_runFrom_271 rfl ?_
            refine gp_pu (st' := .int (2) :: _) dX3_runFrom_272 rfl ?_
            refine gp_iload dX3_runFrom_273 rfl ?_
            refine gp_iload_n dX3_runFrom_275 rfl ?_
            refine gp_iload dX3_runFrom_276 rfl ?_
            refine gp_callX (kind := 0) (args := [.ref _, .int _, .int _, .int _, .int _]) (rest := _) dX3_runFrom_278 (Or.inl ⟨rfl, rfl⟩) mk_3_31 (by decide) me_20 rfl rfl rfl rfl rfl rfl (rn_2_0_4 _ hm (by omega) (d_inc hd (by decide) (by decide))) ?_
            intro K3 hK3
            rw [hK3]
            refine gp_pu (st' := .int _ :: _) dX3_runFrom_281 rfl ?_
            refine gp_iret dX3_runFrom_282 rfl ?_
            exact pX.mk rfl (nls_app [50] J r [12, 11, 51, 10, 51, 10])
          · exact absurd (by decide) h5
        · exact absurd (by decide) h4

set_option maxHeartbeats 400000 in
theorem rn_0_5 (d : Nat) {m a x dd : Int32} {k0 : Int32} {r : Nat} (h : mvs J k0 m a r) (hr : r + 1 ≤ 20) (hd : 0 ≤ dd.toInt ∧ dd.toInt + 0 ≤ 12) : cP (d + 3) 20 [.ref 71, .int 0, .int 5, .int x, .int dd] (mm_sh, mm_R, J, L) (pX (some (.int (x + m))) L (fun K => K = nls J r [10])) := by
  refine cP.of_gP (d := d + 2) me_20 ⟨Nat.le_of_ble_eq_true rfl, rfl⟩ ?_
  show gP mm_cs0 _ _ _ _ _ _ [some (.ref _), some (.int _), some (.int _), some (.int _), some (.int _), none, none, none, none] [] _ _
  refine gp_iload dX3_runFrom_0 rfl ?_
  refine gp_pu (st' := .int (12) :: _) dX3_runFrom_2 rfl ?_
  refine gp_icc (t := 23) dX3_runFrom_4 (by decide) c2_gt (fun h1 => ?_) (fun h1 => ?_)
  · exact absurd h1 (d_12 hd (by decide))
  · have h1' := Int32.not_lt.mp h1
    refine gp_iload_n dX3_runFrom_7 rfl ?_
    refine gp_ifc (t := 23) dX3_runFrom_8 (by decide) c1_lt (fun h2 => ?_) (fun h2 => ?_)
    · exact absurd h2 (by decide)
    · have h2' := Int32.not_lt.mp h2
      refine gp_iload_n dX3_runFrom_11 rfl ?_
      refine gp_pu (st' := .int (3) :: _) dX3_runFrom_12 rfl ?_
      refine gp_icc (t := 23) dX3_runFrom_13 (by decide) c2_ge (fun h3 => ?_) (fun h3 => ?_)
      · exact absurd h3 (by decide)
      · have h3' := Int32.not_le.mp h3
        refine gp_iload_n dX3_runFrom_16 rfl ?_
        refine gp_call (kind := 0) (args := [.int _]) (rest := _) dX3_runFrom_17 (Or.inl ⟨rfl, rfl⟩) mk_3_38 (by decide) me_102 rfl rfl rfl rfl rfl rfl (ok_X8_isKind _ _ _ _) rfl ?_
        refine gp_ifc (t := 25) dX3_runFrom_20 (by decide) c1_ne (fun h4 => ?_) (fun h4 => ?_)
        · refine gp_iload_n dX3_runFrom_25 rfl ?_
          refine gp_iload_n dX3_runFrom_26 rfl ?_
          refine gp_callX (kind := 0) (args := [.int _, .int _]) (rest := _) dX3_runFrom_27 (Or.inl ⟨rfl, rfl⟩) mk_3_48 (by decide) me_19 rfl rfl rfl rfl rfl rfl (hd_0_5 _) ?_
          intro K1 hK1
          rw [hK1]
          refine gp_istore (ls' := [some (.ref _), some (.int _), some (.int _), some (.int _), some (.int _), some (.int _), none, none, none]) dX3_runFrom_30 rfl (Nat.le_of_ble_eq_true rfl) ?_
          refine gp_iload dX3_runFrom_32 rfl ?_
          refine gp_call (kind := 0) (args := [.int _]) (rest := _) dX3_runFrom_34 (Or.inl ⟨rfl, rfl⟩) mk_3_38 (by decide) me_102 rfl rfl rfl rfl rfl rfl (ok_X8_isKind _ _ _ _) rfl ?_
          refine gp_ifc (t := 42) dX3_runFrom_37 (by decide) c1_ne (fun h5 => ?_) (fun h5 => ?_)
          · refine gp_gs dX3_runFrom_42 rfl ?_
            refine gp_iload_n dX3_runFrom_45 rfl ?_
            refine gp_pu (st' := .int (7) :: _) dX3_runFrom_46 rfl ?_
            refine gp_pu (st' := .int _ :: _) dX3_runFrom_48 rfl ?_
            refine gp_iload dX3_runFrom_49 rfl ?_
            refine gp_pu (st' := .int _ :: _) dX3_runFrom_51 rfl ?_
            refine gp_iacv (y := (10)) dX3_runFrom_52 rfl (by decide) (by decide) ?_
            refine gp_istore (ls' := [some (.ref _), some (.int _), some (.int _), some (.int _), some (.int _), some (.int _), some (.int _), none, none]) dX3_runFrom_53 rfl (Nat.le_of_ble_eq_true rfl) ?_
            refine gp_gs dX3_runFrom_55 rfl ?_
            refine gp_iload dX3_runFrom_58 rfl ?_
            refine gp_iacv (y := (-1)) dX3_runFrom_60 rfl (by decide) (by decide) ?_
            refine gp_istore (ls' := [some (.ref _), some (.int _), some (.int _), some (.int _), some (.int _), some (.int _), some (.int _), some (.int _), none]) dX3_runFrom_61 rfl (Nat.le_of_ble_eq_true rfl) ?_
            refine gp_iload dX3_runFrom_63 rfl ?_
            refine gp_pu (st' := .int (1) :: _) dX3_runFrom_65 rfl ?_
            refine gp_pu (st' := .int _ :: _) dX3_runFrom_66 rfl ?_
            refine gp_istore (ls' := [some (.ref _), some (.int _), some (.int _), some (.int _), some (.int _), some (.int _), some (.int _), some (.int _), some (.int _)]) dX3_runFrom_67 rfl (Nat.le_of_ble_eq_true rfl) ?_
            refine gp_aload_n dX3_runFrom_69 rfl ?_
            refine gp_iload dX3_runFrom_70 rfl ?_
            refine gp_callX (kind := 1) (args := [.ref _, .int _]) (rest := _) dX3_runFrom_72 (Or.inr (Or.inl ⟨rfl, rfl⟩)) mk_3_52 (by decide) me_18 rfl rfl rfl rfl rfl (mm_rc_of (by first | rfl | assumption | (simp only [*]; done))) (ct_note _ (by omega) h.1) ?_
            intro K2 hK2
            rw [hK2]
            have hm := h.nls [10]
            rw [show ([10] : List Int32).length = 1 from rfl] at hm
            refine gp_iload dX3_runFrom_75 rfl ?_
            refine gp_ls (t := 176) dX3_runFrom_77 (by decide) rfl ?_
            refine gp_iload_n dX3_runFrom_176 rfl ?_
            refine gp_aload_n dX3_runFrom_177 rfl ?_
            refine gp_giv dX3_runFrom_178 mf_3_22 (by decide) (by first | rfl | assumption | (simp only [*]; done)) (by first | exact hm.2.1 | exact hm.2.2.1 | exact hm.2.2.2 | exact rfl) ?_
            refine gp_pu (st' := .int _ :: _) dX3_runFrom_181 rfl ?_
            refine gp_iret dX3_runFrom_182 rfl ?_
            exact pX.mk rfl rfl
          · exact absurd (by decide) h5
        · exact absurd (by decide) h4

set_option maxHeartbeats 400000 in
theorem rn_1_0_5 (d : Nat) {m a x dd : Int32} {r : Nat} (h : mvs J 5 m a r) (hr : r + 2 ≤ 20) (hd : 0 ≤ dd.toInt ∧ dd.toInt + 1 ≤ 12) : cP (d + 4) 20 [.ref 71, .int 1, .int 0, .int x, .int dd] (mm_sh, mm_R, J, L) (pX (some (.int ((x + m) * 2))) L (fun K => K = nls J r [11, 10])) := by
  refine cP.of_gP (d := d + 3) me_20 ⟨Nat.le_of_ble_eq_true rfl, rfl⟩ ?_
  show gP mm_cs0 _ _ _ _ _ _ [some (.ref _), some (.int _), some (.int _), some (.int _), some (.int _), none, none, none, none] [] _ _
  refine gp_iload dX3_runFrom_0 rfl ?_
  refine gp_pu (st' := .int (12) :: _) dX3_runFrom_2 rfl ?_
  refine gp_icc (t := 23) dX3_runFrom_4 (by decide) c2_gt (fun h1 => ?_) (fun h1 => ?_)
  · exact absurd h1 (d_12 hd (by decide))
  · have h1' := Int32.not_lt.mp h1
    refine gp_iload_n dX3_runFrom_7 rfl ?_
    refine gp_ifc (t := 23) dX3_runFrom_8 (by decide) c1_lt (fun h2 => ?_) (fun h2 => ?_)
    · exact absurd h2 (by decide)
    · have h2' := Int32.not_lt.mp h2
      refine gp_iload_n dX3_runFrom_11 rfl ?_
      refine gp_pu (st' := .int (3) :: _) dX3_runFrom_12 rfl ?_
      refine gp_icc (t := 23) dX3_runFrom_13 (by decide) c2_ge (fun h3 => ?_) (fun h3 => ?_)
      · exact absurd h3 (by decide)
      · have h3' := Int32.not_le.mp h3
        refine gp_iload_n dX3_runFrom_16 rfl ?_
        refine gp_call (kind := 0) (args := [.int _]) (rest := _) dX3_runFrom_17 (Or.inl ⟨rfl, rfl⟩) mk_3_38 (by decide) me_102 rfl rfl rfl rfl rfl rfl (ok_X8_isKind _ _ _ _) rfl ?_
        refine gp_ifc (t := 25) dX3_runFrom_20 (by decide) c1_ne (fun h4 => ?_) (fun h4 => ?_)
        · refine gp_iload_n dX3_runFrom_25 rfl ?_
          refine gp_iload_n dX3_runFrom_26 rfl ?_
          refine gp_callX (kind := 0) (args := [.int _, .int _]) (rest := _) dX3_runFrom_27 (Or.inl ⟨rfl, rfl⟩) mk_3_48 (by decide) me_19 rfl rfl rfl rfl rfl rfl (hd_1_0 _) ?_
          intro K1 hK1
          rw [hK1]
          refine gp_istore (ls' := [some (.ref _), some (.int _), some (.int _), some (.int _), some (.int _), some (.int _), none, none, none]) dX3_runFrom_30 rfl (Nat.le_of_ble_eq_true rfl) ?_
          refine gp_iload dX3_runFrom_32 rfl ?_
          refine gp_call (kind := 0) (args := [.int _]) (rest := _) dX3_runFrom_34 (Or.inl ⟨rfl, rfl⟩) mk_3_38 (by decide) me_102 rfl rfl rfl rfl rfl rfl (ok_X8_isKind _ _ _ _) rfl ?_
          refine gp_ifc (t := 42) dX3_runFrom_37 (by decide) c1_ne (fun h5 => ?_) (fun h5 => ?_)
          · refine gp_gs dX3_runFrom_42 rfl ?_
            refine gp_iload_n dX3_runFrom_45 rfl ?_
            refine gp_pu (st' := .int (7) :: _) dX3_runFrom_46 rfl ?_
            refine gp_pu (st' := .int _ :: _) dX3_runFrom_48 rfl ?_
            refine gp_iload dX3_runFrom_49 rfl ?_
            refine gp_pu (st' := .int _ :: _) dX3_runFrom_51 rfl ?_
            refine gp_iacv (y := (11)) dX3_runFrom_52 rfl (by decide) (by decide) ?_
            refine gp_istore (ls' := [some (.ref _), some (.int _), some (.int _), some (.int _), some (.int _), some (.int _), some (.int _), none, none]) dX3_runFrom_53 rfl (Nat.le_of_ble_eq_true rfl) ?_
            refine gp_gs dX3_runFrom_55 rfl ?_
            refine gp_iload dX3_runFrom_58 rfl ?_
            refine gp_iacv (y := (-1)) dX3_runFrom_60 rfl (by decide) (by decide) ?_
            refine gp_istore (ls' := [some (.ref _), some (.int _), some (.int _), some (.int _), some (.int _), some (.int _), some (.int _), some (.int _), none]) dX3_runFrom_61 rfl (Nat.le_of_ble_eq_true rfl) ?_
            refine gp_iload dX3_runFrom_63 rfl ?_
            refine gp_pu (st' := .int (1) :: _) dX3_runFrom_65 rfl ?_
            refine gp_pu (st' := .int _ :: _) dX3_runFrom_66 rfl ?_
            refine gp_istore (ls' := [some (.ref _), some (.int _), some (.int _), some (.int _), some (.int _), some (.int _), some (.int _), some (.int _), some (.int _)]) dX3_runFrom_67 rfl (Nat.le_of_ble_eq_true rfl) ?_
            refine gp_aload_n dX3_runFrom_69 rfl ?_
            refine gp_iload dX3_runFrom_70 rfl ?_
            refine gp_callX (kind := 1) (args := [.ref _, .int _]) (rest := _) dX3_runFrom_72 (Or.inr (Or.inl ⟨rfl, rfl⟩)) mk_3_52 (by decide) me_18 rfl rfl rfl rfl rfl (mm_rc_of (by first | rfl | assumption | (simp only [*]; done))) (ct_note _ (by omega) h.1) ?_
            intro K2 hK2
            rw [hK2]
            have hm := h.nls [11]
            rw [show ([11] : List Int32).length = 1 from rfl] at hm
            refine gp_iload dX3_runFrom_75 rfl ?_
            refine gp_ls (t := 183) dX3_runFrom_77 (by decide) rfl ?_
            refine gp_aload_n dX3_runFrom_183 rfl ?_
            refine gp_pu (st' := .int (0) :: _) dX3_runFrom_184 rfl ?_
            refine gp_aload_n dX3_runFrom_185 rfl ?_
            refine gp_giv dX3_runFrom_186 mf_3_21 (by decide) (by first | rfl | assumption | (simp only [*]; done)) (by first | exact hm.2.1 | exact hm.2.2.1 | exact hm.2.2.2 | exact rfl) ?_
            refine gp_iload_n dX3_runFrom_189 rfl ?_
            refine gp_iload dX3_runFrom_190 rfl ?_
            refine gp_callX (kind := 0) (args := [.ref _, .int _, .int _, .int _, .int _]) (rest := _) dX3_runFrom_192 (Or.inl ⟨rfl, rfl⟩) mk_3_31 (by decide) me_20 rfl rfl rfl rfl rfl rfl (rn_0_5 _ hm (by omega) (d_inc hd (by decide) (by decide))) ?_
            intro K3 hK3
            rw [hK3]
            refine gp_pu (st' := .int (2) :: _) dX3_runFrom_195 rfl ?_
            refine gp_pu (st' := .int _ :: _) dX3_runFrom_196 rfl ?_
            refine gp_iret dX3_runFrom_197 rfl ?_
            exact pX.mk rfl (nls_app [11] J r [10])
          · exact absurd (by decide) h5
        · exact absurd (by decide) h4

set_option maxHeartbeats 400000 in
theorem rn_1_5_5 (d : Nat) {m a x dd : Int32} {r : Nat} (h : mvs J 5 m a r) (hr : r + 3 ≤ 20) (hd : 0 ≤ dd.toInt ∧ dd.toInt + 2 ≤ 12) : cP (d + 5) 20 [.ref 71, .int 1, .int 5, .int x, .int dd] (mm_sh, mm_R, J, L) (pX (some (.int (((x + m) * 2) * 3))) L (fun K => K = nls J r [30, 11, 10])) := by
  refine cP.of_gP (d := d + 4) me_20 ⟨Nat.le_of_ble_eq_true rfl, rfl⟩ ?_
  show gP mm_cs0 _ _ _ _ _ _ [some (.ref _), some (.int _), some (.int _), some (.int _), some (.int _), none, none, none, none] [] _ _
  refine gp_iload dX3_runFrom_0 rfl ?_
  refine gp_pu (st' := .int (12) :: _) dX3_runFrom_2 rfl ?_
  refine gp_icc (t := 23) dX3_runFrom_4 (by decide) c2_gt (fun h1 => ?_) (fun h1 => ?_)
  · exact absurd h1 (d_12 hd (by decide))
  · have h1' := Int32.not_lt.mp h1
    refine gp_iload_n dX3_runFrom_7 rfl ?_
    refine gp_ifc (t := 23) dX3_runFrom_8 (by decide) c1_lt (fun h2 => ?_) (fun h2 => ?_)
    · exact absurd h2 (by decide)
    · have h2' := Int32.not_lt.mp h2
      refine gp_iload_n dX3_runFrom_11 rfl ?_
      refine gp_pu (st' := .int (3) :: _) dX3_runFrom_12 rfl ?_
      refine gp_icc (t := 23) dX3_runFrom_13 (by decide) c2_ge (fun h3 => ?_) (fun h3 => ?_)
      · exact absurd h3 (by decide)
      · have h3' := Int32.not_le.mp h3
        refine gp_iload_n dX3_runFrom_16 rfl ?_
        refine gp_call (kind := 0) (args := [.int _]) (rest := _) dX3_runFrom_17 (Or.inl ⟨rfl, rfl⟩) mk_3_38 (by decide) me_102 rfl rfl rfl rfl rfl rfl (ok_X8_isKind _ _ _ _) rfl ?_
        refine gp_ifc (t := 25) dX3_runFrom_20 (by decide) c1_ne (fun h4 => ?_) (fun h4 => ?_)
        · refine gp_iload_n dX3_runFrom_25 rfl ?_
          refine gp_iload_n dX3_runFrom_26 rfl ?_
          refine gp_callX (kind := 0) (args := [.int _, .int _]) (rest := _) dX3_runFrom_27 (Or.inl ⟨rfl, rfl⟩) mk_3_48 (by decide) me_19 rfl rfl rfl rfl rfl rfl (hd_1_5 _) ?_
          intro K1 hK1
          rw [hK1]
          refine gp_istore (ls' := [some (.ref _), some (.int _), some (.int _), some (.int _), some (.int _), some (.int _), none, none, none]) dX3_runFrom_30 rfl (Nat.le_of_ble_eq_true rfl) ?_
          refine gp_iload dX3_runFrom_32 rfl ?_
          refine gp_call (kind := 0) (args := [.int _]) (rest := _) dX3_runFrom_34 (Or.inl ⟨rfl, rfl⟩) mk_3_38 (by decide) me_102 rfl rfl rfl rfl rfl rfl (ok_X8_isKind _ _ _ _) rfl ?_
          refine gp_ifc (t := 42) dX3_runFrom_37 (by decide) c1_ne (fun h5 => ?_) (fun h5 => ?_)
          · refine gp_gs dX3_runFrom_42 rfl ?_
            refine gp_iload_n dX3_runFrom_45 rfl ?_
            refine gp_pu (st' := .int (7) :: _) dX3_runFrom_46 rfl ?_
            refine gp_pu (st' := .int _ :: _) dX3_runFrom_48 rfl ?_
            refine gp_iload dX3_runFrom_49 rfl ?_
            refine gp_pu (st' := .int _ :: _) dX3_runFrom_51 rfl ?_
            refine gp_iacv (y := (30)) dX3_runFrom_52 rfl (by decide) (by decide) ?_
            refine gp_istore (ls' := [some (.ref _), some (.int _), some (.int _), some (.int _), some (.int _), some (.int _), some (.int _), none, none]) dX3_runFrom_53 rfl (Nat.le_of_ble_eq_true rfl) ?_
            refine gp_gs dX3_runFrom_55 rfl ?_
            refine gp_iload dX3_runFrom_58 rfl ?_
            refine gp_iacv (y := (0)) dX3_runFrom_60 rfl (by decide) (by decide) ?_
            refine gp_istore (ls' := [some (.ref _), some (.int _), some (.int _), some (.int _), some (.int _), some (.int _), some (.int _), some (.int _), none]) dX3_runFrom_61 rfl (Nat.le_of_ble_eq_true rfl) ?_
            refine gp_iload dX3_runFrom_63 rfl ?_
            refine gp_pu (st' := .int (1) :: _) dX3_runFrom_65 rfl ?_
            refine gp_pu (st' := .int _ :: _) dX3_runFrom_66 rfl ?_
            refine gp_istore (ls' := [some (.ref _), some (.int _), some (.int _), some (.int _), some (.int _), some (.int _), some (.int _), some (.int _), some (.int _)]) dX3_runFrom_67 rfl (Nat.le_of_ble_eq_true rfl) ?_
            refine gp_aload_n dX3_runFrom_69 rfl ?_
            refine gp_iload dX3_runFrom_70 rfl ?_
            refine gp_callX (kind := 1) (args := [.ref _, .int _]) (rest := _) dX3_runFrom_72 (Or.inr (Or.inl ⟨rfl, rfl⟩)) mk_3_52 (by decide) me_18 rfl rfl rfl rfl rfl (mm_rc_of (by first | rfl | assumption | (simp only [*]; done))) (ct_note _ (by omega) h.1) ?_
            intro K2 hK2
            rw [hK2]
            have hm := h.nls [30]
            rw [show ([30] : List Int32).length = 1 from rfl] at hm
            refine gp_iload dX3_runFrom_75 rfl ?_
            refine gp_ls (t := 245) dX3_runFrom_77 (by decide) rfl ?_
            refine gp_aload_n dX3_runFrom_245 rfl ?_
            refine gp_pu (st' := .int (1) :: _) dX3_runFrom_246 rfl ?_
            refine gp_iload dX3_runFrom_247 rfl ?_
            refine gp_iload_n dX3_runFrom_249 rfl ?_
            refine gp_iload dX3_runFrom_250 rfl ?_
            refine gp_callX (kind := 0) (args := [.ref _, .int _, .int _, .int _, .int _]) (rest := _) dX3_runFrom_252 (Or.inl ⟨rfl, rfl⟩) mk_3_31 (by decide) me_20 rfl rfl rfl rfl rfl rfl (rn_1_0_5 _ hm (by omega) (d_inc hd (by decide) (by decide))) ?_
            intro K3 hK3
            rw [hK3]
            refine gp_pu (st' := .int (3) :: _) dX3_runFrom_255 rfl ?_
            refine gp_pu (st' := .int _ :: _) dX3_runFrom_256 rfl ?_
            refine gp_iret dX3_runFrom_257 rfl ?_
            exact pX.mk rfl (nls_app [30] J r [11, 10])
          · exact absurd (by decide) h5
        · exact absurd (by decide) h4

set_option maxHeartbeats 400000 in
theorem rn_2_2_5 (d : Nat) {m a x dd : Int32} {r : Nat} (h : mvs J 5 m a r) (hr : r + 5 ≤ 20) (hd : 0 ≤ dd.toInt ∧ dd.toInt + 3 ≤ 12) : cP (d + 6) 20 [.ref 71, .int 2, .int 2, .int x, .int dd] (mm_sh, mm_R, J, L) (pX (some (.int ((((x + m) * 2) * 3) ^^^ ((x - a) + m)))) L (fun K => K = nls J r [12, 30, 11, 10, 10])) := by
  refine cP.of_gP (d := d + 5) me_20 ⟨Nat.le_of_ble_eq_true rfl, rfl⟩ ?_
  show gP mm_cs0 _ _ _ _ _ _ [some (.ref _), some (.int _), some (.int _), some (.int _), some (.int _), none, none, none, none] [] _ _
  refine gp_iload dX3_runFrom_0 rfl ?_
  refine gp_pu (st' := .int (12) :: _) dX3_runFrom_2 rfl ?_
  refine gp_icc (t := 23) dX3_runFrom_4 (by decide) c2_gt (fun h1 => ?_) (fun h1 => ?_)
  · exact absurd h1 (d_12 hd (by decide))
  · have h1' := Int32.not_lt.mp h1
    refine gp_iload_n dX3_runFrom_7 rfl ?_
    refine gp_ifc (t := 23) dX3_runFrom_8 (by decide) c1_lt (fun h2 => ?_) (fun h2 => ?_)
    · exact absurd h2 (by decide)
    · have h2' := Int32.not_lt.mp h2
      refine gp_iload_n dX3_runFrom_11 rfl ?_
      refine gp_pu (st' := .int (3) :: _) dX3_runFrom_12 rfl ?_
      refine gp_icc (t := 23) dX3_runFrom_13 (by decide) c2_ge (fun h3 => ?_) (fun h3 => ?_)
      · exact absurd h3 (by decide)
      · have h3' := Int32.not_le.mp h3
        refine gp_iload_n dX3_runFrom_16 rfl ?_
        refine gp_call (kind := 0) (args := [.int _]) (rest := _) dX3_runFrom_17 (Or.inl ⟨rfl, rfl⟩) mk_3_38 (by decide) me_102 rfl rfl rfl rfl rfl rfl (ok_X8_isKind _ _ _ _) rfl ?_
        refine gp_ifc (t := 25) dX3_runFrom_20 (by decide) c1_ne (fun h4 => ?_) (fun h4 => ?_)
        · refine gp_iload_n dX3_runFrom_25 rfl ?_
          refine gp_iload_n dX3_runFrom_26 rfl ?_
          refine gp_callX (kind := 0) (args := [.int _, .int _]) (rest := _) dX3_runFrom_27 (Or.inl ⟨rfl, rfl⟩) mk_3_48 (by decide) me_19 rfl rfl rfl rfl rfl rfl (hd_2_2 _) ?_
          intro K1 hK1
          rw [hK1]
          refine gp_istore (ls' := [some (.ref _), some (.int _), some (.int _), some (.int _), some (.int _), some (.int _), none, none, none]) dX3_runFrom_30 rfl (Nat.le_of_ble_eq_true rfl) ?_
          refine gp_iload dX3_runFrom_32 rfl ?_
          refine gp_call (kind := 0) (args := [.int _]) (rest := _) dX3_runFrom_34 (Or.inl ⟨rfl, rfl⟩) mk_3_38 (by decide) me_102 rfl rfl rfl rfl rfl rfl (ok_X8_isKind _ _ _ _) rfl ?_
          refine gp_ifc (t := 42) dX3_runFrom_37 (by decide) c1_ne (fun h5 => ?_) (fun h5 => ?_)
          · refine gp_gs dX3_runFrom_42 rfl ?_
            refine gp_iload_n dX3_runFrom_45 rfl ?_
            refine gp_pu (st' := .int (7) :: _) dX3_runFrom_46 rfl ?_
            refine gp_pu (st' := .int _ :: _) dX3_runFrom_48 rfl ?_
            refine gp_iload dX3_runFrom_49 rfl ?_
            refine gp_pu (st' := .int _ :: _) dX3_runFrom_51 rfl ?_
            refine gp_iacv (y := (12)) dX3_runFrom_52 rfl (by decide) (by decide) ?_
            refine gp_istore (ls' := [some (.ref _), some (.int _), some (.int _), some (.int _), some (.int _), some (.int _), some (.int _), none, none]) dX3_runFrom_53 rfl (Nat.le_of_ble_eq_true rfl) ?_
            refine gp_gs dX3_runFrom_55 rfl ?_
            refine gp_iload dX3_runFrom_58 rfl ?_
            refine gp_iacv (y := (-1)) dX3_runFrom_60 rfl (by decide) (by decide) ?_
            refine gp_istore (ls' := [some (.ref _), some (.int _), some (.int _), some (.int _), some (.int _), some (.int _), some (.int _), some (.int _), none]) dX3_runFrom_61 rfl (Nat.le_of_ble_eq_true rfl) ?_
            refine gp_iload dX3_runFrom_63 rfl ?_
            refine gp_pu (st' := .int (1) :: _) dX3_runFrom_65 rfl ?_
            refine gp_pu (st' := .int _ :: _) dX3_runFrom_66 rfl ?_
            refine gp_istore (ls' := [some (.ref _), some (.int _), some (.int _), some (.int _), some (.int _), some (.int _), some (.int _), some (.int _), some (.int _)]) dX3_runFrom_67 rfl (Nat.le_of_ble_eq_true rfl) ?_
            refine gp_aload_n dX3_runFrom_69 rfl ?_
            refine gp_iload dX3_runFrom_70 rfl ?_
            refine gp_callX (kind := 1) (args := [.ref _, .int _]) (rest := _) dX3_runFrom_72 (Or.inr (Or.inl ⟨rfl, rfl⟩)) mk_3_52 (by decide) me_18 rfl rfl rfl rfl rfl (mm_rc_of (by first | rfl | assumption | (simp only [*]; done))) (ct_note _ (by omega) h.1) ?_
            intro K2 hK2
            rw [hK2]
            have hm := h.nls [12]
            rw [show ([12] : List Int32).length = 1 from rfl] at hm
            refine gp_iload dX3_runFrom_75 rfl ?_
            refine gp_ls (t := 198) dX3_runFrom_77 (by decide) rfl ?_
            refine gp_aload_n dX3_runFrom_198 rfl ?_
            refine gp_pu (st' := .int (1) :: _) dX3_runFrom_199 rfl ?_
            refine gp_aload_n dX3_runFrom_200 rfl ?_
            refine gp_giv dX3_runFrom_201 mf_3_21 (by decide) (by first | rfl | assumption | (simp only [*]; done)) (by first | exact hm.2.1 | exact hm.2.2.1 | exact hm.2.2.2 | exact rfl) ?_
            refine gp_iload_n dX3_runFrom_204 rfl ?_
            refine gp_iload dX3_runFrom_205 rfl ?_
            refine gp_callX (kind := 0) (args := [.ref _, .int _, .int _, .int _, .int _]) (rest := _) dX3_runFrom_207 (Or.inl ⟨rfl, rfl⟩) mk_3_31 (by decide) me_20 rfl rfl rfl rfl rfl rfl (rn_1_5_5 _ hm (by omega) (d_inc hd (by decide) (by decide))) ?_
            intro K3 hK3
            rw [hK3]
            have hm2 := hm.nls [30, 11, 10]
            rw [show ([30, 11, 10] : List Int32).length = 3 from rfl] at hm2
            refine gp_aload_n dX3_runFrom_210 rfl ?_
            refine gp_pu (st' := .int (0) :: _) dX3_runFrom_211 rfl ?_
            refine gp_aload_n dX3_runFrom_212 rfl ?_
            refine gp_giv dX3_runFrom_213 mf_3_21 (by decide) (by first | rfl | assumption | (simp only [*]; done)) (by first | exact hm2.2.1 | exact hm2.2.2.1 | exact hm2.2.2.2 | exact hm.2.1 | exact hm.2.2.1 | exact hm.2.2.2 | exact rfl) ?_
            refine gp_iload_n dX3_runFrom_216 rfl ?_
            refine gp_aload_n dX3_runFrom_217 rfl ?_
            refine gp_giv dX3_runFrom_218 mf_3_28 (by decide) (by first | rfl | assumption | (simp only [*]; done)) (by first | exact hm2.2.1 | exact hm2.2.2.1 | exact hm2.2.2.2 | exact hm.2.1 | exact hm.2.2.1 | exact hm.2.2.2 | exact rfl) ?_
            refine gp_pu (st' := .int _ :: _) dX3_runFrom_221 rfl ?_
            refine gp_iload dX3_runFrom_222 rfl ?_
            refine gp_callX (kind := 0) (args := [.ref _, .int _, .int _, .int _, .int _]) (rest := _) dX3_runFrom_224 (Or.inl ⟨rfl, rfl⟩) mk_3_31 (by decide) me_20 rfl rfl rfl rfl rfl rfl (rn_0_5 _ hm2 (by omega) (d_inc hd (by decide) (by decide))) ?_
            intro K4 hK4
            rw [hK4]
            refine gp_pu (st' := .int _ :: _) dX3_runFrom_227 rfl ?_
            refine gp_iret dX3_runFrom_228 rfl ?_
            (refine pX.mk rfl ?_
             have q1 := nls_app [12] J r [30, 11, 10]
             have q2 := nls_app ([12] ++ [30, 11, 10]) J r [10]
             rw [← q1] at q2
             rw [show ([12] ++ [30, 11, 10] : List Int32).length = 4 from rfl, show ([12] : List Int32).length = 1 from rfl] at q2
             exact q2)
          · exact absurd (by decide) h5
        · exact absurd (by decide) h4

set_option maxHeartbeats 400000 in
theorem rn_2_5_5 (d : Nat) {m a x dd : Int32} {r : Nat} (h : mvs J 5 m a r) (hr : r + 6 ≤ 20) (hd : 0 ≤ dd.toInt ∧ dd.toInt + 4 ≤ 12) : cP (d + 7) 20 [.ref 71, .int 2, .int 5, .int x, .int dd] (mm_sh, mm_R, J, L) (pX (some (.int (((((x + m) * 2) * 3) ^^^ ((x - a) + m)) ^^^ 5))) L (fun K => K = nls J r [60, 12, 30, 11, 10, 10])) := by
  refine cP.of_gP (d := d + 6) me_20 ⟨Nat.le_of_ble_eq_true rfl, rfl⟩ ?_
  show gP mm_cs0 _ _ _ _ _ _ [some (.ref _), some (.int _), some (.int _), some (.int _), some (.int _), none, none, none, none] [] _ _
  refine gp_iload dX3_runFrom_0 rfl ?_
  refine gp_pu (st' := .int (12) :: _) dX3_runFrom_2 rfl ?_
  refine gp_icc (t := 23) dX3_runFrom_4 (by decide) c2_gt (fun h1 => ?_) (fun h1 => ?_)
  · exact absurd h1 (d_12 hd (by decide))
  · have h1' := Int32.not_lt.mp h1
    refine gp_iload_n dX3_runFrom_7 rfl ?_
    refine gp_ifc (t := 23) dX3_runFrom_8 (by decide) c1_lt (fun h2 => ?_) (fun h2 => ?_)
    · exact absurd h2 (by decide)
    · have h2' := Int32.not_lt.mp h2
      refine gp_iload_n dX3_runFrom_11 rfl ?_
      refine gp_pu (st' := .int (3) :: _) dX3_runFrom_12 rfl ?_
      refine gp_icc (t := 23) dX3_runFrom_13 (by decide) c2_ge (fun h3 => ?_) (fun h3 => ?_)
      · exact absurd h3 (by decide)
      · have h3' := Int32.not_le.mp h3
        refine gp_iload_n dX3_runFrom_16 rfl ?_
        refine gp_call (kind := 0) (args := [.int _]) (rest := _) dX3_runFrom_17 (Or.inl ⟨rfl, rfl⟩) mk_3_38 (by decide) me_102 rfl rfl rfl rfl rfl rfl (ok_X8_isKind _ _ _ _) rfl ?_
        refine gp_ifc (t := 25) dX3_runFrom_20 (by decide) c1_ne (fun h4 => ?_) (fun h4 => ?_)
        · refine gp_iload_n dX3_runFrom_25 rfl ?_
          refine gp_iload_n dX3_runFrom_26 rfl ?_
          refine gp_callX (kind := 0) (args := [.int _, .int _]) (rest := _) dX3_runFrom_27 (Or.inl ⟨rfl, rfl⟩) mk_3_48 (by decide) me_19 rfl rfl rfl rfl rfl rfl (hd_2_5 _) ?_
          intro K1 hK1
          rw [hK1]
          refine gp_istore (ls' := [some (.ref _), some (.int _), some (.int _), some (.int _), some (.int _), some (.int _), none, none, none]) dX3_runFrom_30 rfl (Nat.le_of_ble_eq_true rfl) ?_
          refine gp_iload dX3_runFrom_32 rfl ?_
          refine gp_call (kind := 0) (args := [.int _]) (rest := _) dX3_runFrom_34 (Or.inl ⟨rfl, rfl⟩) mk_3_38 (by decide) me_102 rfl rfl rfl rfl rfl rfl (ok_X8_isKind _ _ _ _) rfl ?_
          refine gp_ifc (t := 42) dX3_runFrom_37 (by decide) c1_ne (fun h5 => ?_) (fun h5 => ?_)
          · refine gp_gs dX3_runFrom_42 rfl ?_
            refine gp_iload_n dX3_runFrom_45 rfl ?_
            refine gp_pu (st' := .int (7) :: _) dX3_runFrom_46 rfl ?_
            refine gp_pu (st' := .int _ :: _) dX3_runFrom_48 rfl ?_
            refine gp_iload dX3_runFrom_49 rfl ?_
            refine gp_pu (st' := .int _ :: _) dX3_runFrom_51 rfl ?_
            refine gp_iacv (y := (60)) dX3_runFrom_52 rfl (by decide) (by decide) ?_
            refine gp_istore (ls' := [some (.ref _), some (.int _), some (.int _), some (.int _), some (.int _), some (.int _), some (.int _), none, none]) dX3_runFrom_53 rfl (Nat.le_of_ble_eq_true rfl) ?_
            refine gp_gs dX3_runFrom_55 rfl ?_
            refine gp_iload dX3_runFrom_58 rfl ?_
            refine gp_iacv (y := (2)) dX3_runFrom_60 rfl (by decide) (by decide) ?_
            refine gp_istore (ls' := [some (.ref _), some (.int _), some (.int _), some (.int _), some (.int _), some (.int _), some (.int _), some (.int _), none]) dX3_runFrom_61 rfl (Nat.le_of_ble_eq_true rfl) ?_
            refine gp_iload dX3_runFrom_63 rfl ?_
            refine gp_pu (st' := .int (1) :: _) dX3_runFrom_65 rfl ?_
            refine gp_pu (st' := .int _ :: _) dX3_runFrom_66 rfl ?_
            refine gp_istore (ls' := [some (.ref _), some (.int _), some (.int _), some (.int _), some (.int _), some (.int _), some (.int _), some (.int _), some (.int _)]) dX3_runFrom_67 rfl (Nat.le_of_ble_eq_true rfl) ?_
            refine gp_aload_n dX3_runFrom_69 rfl ?_
            refine gp_iload dX3_runFrom_70 rfl ?_
            refine gp_callX (kind := 1) (args := [.ref _, .int _]) (rest := _) dX3_runFrom_72 (Or.inr (Or.inl ⟨rfl, rfl⟩)) mk_3_52 (by decide) me_18 rfl rfl rfl rfl rfl (mm_rc_of (by first | rfl | assumption | (simp only [*]; done))) (ct_note _ (by omega) h.1) ?_
            intro K2 hK2
            rw [hK2]
            have hm := h.nls [60]
            rw [show ([60] : List Int32).length = 1 from rfl] at hm
            refine gp_iload dX3_runFrom_75 rfl ?_
            refine gp_ls (t := 299) dX3_runFrom_77 (by decide) rfl ?_
            refine gp_aload_n dX3_runFrom_299 rfl ?_
            refine gp_pu (st' := .int (2) :: _) dX3_runFrom_300 rfl ?_
            refine gp_iload dX3_runFrom_301 rfl ?_
            refine gp_iload_n dX3_runFrom_303 rfl ?_
            refine gp_iload dX3_runFrom_304 rfl ?_
            refine gp_callX (kind := 0) (args := [.ref _, .int _, .int _, .int _, .int _]) (rest := _) dX3_runFrom_306 (Or.inl ⟨rfl, rfl⟩) mk_3_31 (by decide) me_20 rfl rfl rfl rfl rfl rfl (rn_2_2_5 _ hm (by omega) (d_inc hd (by decide) (by decide))) ?_
            intro K3 hK3
            rw [hK3]
            refine gp_pu (st' := .int (5) :: _) dX3_runFrom_309 rfl ?_
            refine gp_pu (st' := .int _ :: _) dX3_runFrom_310 rfl ?_
            refine gp_iret dX3_runFrom_311 rfl ?_
            exact pX.mk rfl (nls_app [60] J r [12, 30, 11, 10, 10])
          · exact absurd (by decide) h5
        · exact absurd (by decide) h4

set_option maxHeartbeats 400000 in
theorem rn_0_6 (d : Nat) {m a x dd : Int32} {k0 : Int32} {r : Nat} (h : mvs J k0 m a r) (hr : r + 3 ≤ 20) (hd : 0 ≤ dd.toInt ∧ dd.toInt + 2 ≤ 12) : cP (d + 5) 20 [.ref 71, .int 0, .int 6, .int x, .int dd] (mm_sh, mm_R, J, L) (pX (some (.int (((x + m) - m) * 2))) L (fun K => K = nls J r [70, 51, 10])) := by
  refine cP.of_gP (d := d + 4) me_20 ⟨Nat.le_of_ble_eq_true rfl, rfl⟩ ?_
  show gP mm_cs0 _ _ _ _ _ _ [some (.ref _), some (.int _), some (.int _), some (.int _), some (.int _), none, none, none, none] [] _ _
  refine gp_iload dX3_runFrom_0 rfl ?_
  refine gp_pu (st' := .int (12) :: _) dX3_runFrom_2 rfl ?_
  refine gp_icc (t := 23) dX3_runFrom_4 (by decide) c2_gt (fun h1 => ?_) (fun h1 => ?_)
  · exact absurd h1 (d_12 hd (by decide))
  · have h1' := Int32.not_lt.mp h1
    refine gp_iload_n dX3_runFrom_7 rfl ?_
    refine gp_ifc (t := 23) dX3_runFrom_8 (by decide) c1_lt (fun h2 => ?_) (fun h2 => ?_)
    · exact absurd h2 (by decide)
    · have h2' := Int32.not_lt.mp h2
      refine gp_iload_n dX3_runFrom_11 rfl ?_
      refine gp_pu (st' := .int (3) :: _) dX3_runFrom_12 rfl ?_
      refine gp_icc (t := 23) dX3_runFrom_13 (by decide) c2_ge (fun h3 => ?_) (fun h3 => ?_)
      · exact absurd h3 (by decide)
      · have h3' := Int32.not_le.mp h3
        refine gp_iload_n dX3_runFrom_16 rfl ?_
        refine gp_call (kind := 0) (args := [.int _]) (rest := _) dX3_runFrom_17 (Or.inl ⟨rfl, rfl⟩) mk_3_38 (by decide) me_102 rfl rfl rfl rfl rfl rfl (ok_X8_isKind _ _ _ _) rfl ?_
        refine gp_ifc (t := 25) dX3_runFrom_20 (by decide) c1_ne (fun h4 => ?_) (fun h4 => ?_)
        · refine gp_iload_n dX3_runFrom_25 rfl ?_
          refine gp_iload_n dX3_runFrom_26 rfl ?_
          refine gp_callX (kind := 0) (args := [.int _, .int _]) (rest := _) dX3_runFrom_27 (Or.inl ⟨rfl, rfl⟩) mk_3_48 (by decide) me_19 rfl rfl rfl rfl rfl rfl (hd_0_6 _) ?_
          intro K1 hK1
          rw [hK1]
          refine gp_istore (ls' := [some (.ref _), some (.int _), some (.int _), some (.int _), some (.int _), some (.int _), none, none, none]) dX3_runFrom_30 rfl (Nat.le_of_ble_eq_true rfl) ?_
          refine gp_iload dX3_runFrom_32 rfl ?_
          refine gp_call (kind := 0) (args := [.int _]) (rest := _) dX3_runFrom_34 (Or.inl ⟨rfl, rfl⟩) mk_3_38 (by decide) me_102 rfl rfl rfl rfl rfl rfl (ok_X8_isKind _ _ _ _) rfl ?_
          refine gp_ifc (t := 42) dX3_runFrom_37 (by decide) c1_ne (fun h5 => ?_) (fun h5 => ?_)
          · refine gp_gs dX3_runFrom_42 rfl ?_
            refine gp_iload_n dX3_runFrom_45 rfl ?_
            refine gp_pu (st' := .int (7) :: _) dX3_runFrom_46 rfl ?_
            refine gp_pu (st' := .int _ :: _) dX3_runFrom_48 rfl ?_
            refine gp_iload dX3_runFrom_49 rfl ?_
            refine gp_pu (st' := .int _ :: _) dX3_runFrom_51 rfl ?_
            refine gp_iacv (y := (70)) dX3_runFrom_52 rfl (by decide) (by decide) ?_
            refine gp_istore (ls' := [some (.ref _), some (.int _), some (.int _), some (.int _), some (.int _), some (.int _), some (.int _), none, none]) dX3_runFrom_53 rfl (Nat.le_of_ble_eq_true rfl) ?_
            refine gp_gs dX3_runFrom_55 rfl ?_
            refine gp_iload dX3_runFrom_58 rfl ?_
            refine gp_iacv (y := (4)) dX3_runFrom_60 rfl (by decide) (by decide) ?_
            refine gp_istore (ls' := [some (.ref _), some (.int _), some (.int _), some (.int _), some (.int _), some (.int _), some (.int _), some (.int _), none]) dX3_runFrom_61 rfl (Nat.le_of_ble_eq_true rfl) ?_
            refine gp_iload dX3_runFrom_63 rfl ?_
            refine gp_pu (st' := .int (1) :: _) dX3_runFrom_65 rfl ?_
            refine gp_pu (st' := .int _ :: _) dX3_runFrom_66 rfl ?_
            refine gp_istore (ls' := [some (.ref _), some (.int _), some (.int _), some (.int _), some (.int _), some (.int _), some (.int _), some (.int _), some (.int _)]) dX3_runFrom_67 rfl (Nat.le_of_ble_eq_true rfl) ?_
            refine gp_aload_n dX3_runFrom_69 rfl ?_
            refine gp_iload dX3_runFrom_70 rfl ?_
            refine gp_callX (kind := 1) (args := [.ref _, .int _]) (rest := _) dX3_runFrom_72 (Or.inr (Or.inl ⟨rfl, rfl⟩)) mk_3_52 (by decide) me_18 rfl rfl rfl rfl rfl (mm_rc_of (by first | rfl | assumption | (simp only [*]; done))) (ct_note _ (by omega) h.1) ?_
            intro K2 hK2
            rw [hK2]
            have hm := h.nls [70]
            rw [show ([70] : List Int32).length = 1 from rfl] at hm
            refine gp_iload dX3_runFrom_75 rfl ?_
            refine gp_ls (t := 312) dX3_runFrom_77 (by decide) rfl ?_
            refine gp_aload_n dX3_runFrom_312 rfl ?_
            refine gp_pu (st' := .int (0) :: _) dX3_runFrom_313 rfl ?_
            refine gp_iload dX3_runFrom_314 rfl ?_
            refine gp_iload_n dX3_runFrom_316 rfl ?_
            refine gp_iload dX3_runFrom_317 rfl ?_
            refine gp_callX (kind := 0) (args := [.ref _, .int _, .int _, .int _, .int _]) (rest := _) dX3_runFrom_319 (Or.inl ⟨rfl, rfl⟩) mk_3_31 (by decide) me_20 rfl rfl rfl rfl rfl rfl (rn_0_4 _ hm (by omega) (d_inc hd (by decide) (by decide))) ?_
            intro K3 hK3
            rw [hK3]
            refine gp_pu (st' := .int (2) :: _) dX3_runFrom_322 rfl ?_
            refine gp_pu (st' := .int _ :: _) dX3_runFrom_323 rfl ?_
            refine gp_iret dX3_runFrom_324 rfl ?_
            exact pX.mk rfl (nls_app [70] J r [51, 10])
          · exact absurd (by decide) h5
        · exact absurd (by decide) h4

set_option maxHeartbeats 400000 in
theorem rn_1_4_6 (d : Nat) {m a x dd : Int32} {r : Nat} (h : mvs J 6 m a r) (hr : r + 4 ≤ 20) (hd : 0 ≤ dd.toInt ∧ dd.toInt + 3 ≤ 12) : cP (d + 6) 20 [.ref 71, .int 1, .int 4, .int x, .int dd] (mm_sh, mm_R, J, L) (pX (some (.int ((((x + m) - m) * 2) * 2))) L (fun K => K = nls J r [11, 70, 51, 10])) := by
  refine cP.of_gP (d := d + 5) me_20 ⟨Nat.le_of_ble_eq_true rfl, rfl⟩ ?_
  show gP mm_cs0 _ _ _ _ _ _ [some (.ref _), some (.int _), some (.int _), some (.int _), some (.int _), none, none, none, none] [] _ _
  refine gp_iload dX3_runFrom_0 rfl ?_
  refine gp_pu (st' := .int (12) :: _) dX3_runFrom_2 rfl ?_
  refine gp_icc (t := 23) dX3_runFrom_4 (by decide) c2_gt (fun h1 => ?_) (fun h1 => ?_)
  · exact absurd h1 (d_12 hd (by decide))
  · have h1' := Int32.not_lt.mp h1
    refine gp_iload_n dX3_runFrom_7 rfl ?_
    refine gp_ifc (t := 23) dX3_runFrom_8 (by decide) c1_lt (fun h2 => ?_) (fun h2 => ?_)
    · exact absurd h2 (by decide)
    · have h2' := Int32.not_lt.mp h2
      refine gp_iload_n dX3_runFrom_11 rfl ?_
      refine gp_pu (st' := .int (3) :: _) dX3_runFrom_12 rfl ?_
      refine gp_icc (t := 23) dX3_runFrom_13 (by decide) c2_ge (fun h3 => ?_) (fun h3 => ?_)
      · exact absurd h3 (by decide)
      · have h3' := Int32.not_le.mp h3
        refine gp_iload_n dX3_runFrom_16 rfl ?_
        refine gp_call (kind := 0) (args := [.int _]) (rest := _) dX3_runFrom_17 (Or.inl ⟨rfl, rfl⟩) mk_3_38 (by decide) me_102 rfl rfl rfl rfl rfl rfl (ok_X8_isKind _ _ _ _) rfl ?_
        refine gp_ifc (t := 25) dX3_runFrom_20 (by decide) c1_ne (fun h4 => ?_) (fun h4 => ?_)
        · refine gp_iload_n dX3_runFrom_25 rfl ?_
          refine gp_iload_n dX3_runFrom_26 rfl ?_
          refine gp_callX (kind := 0) (args := [.int _, .int _]) (rest := _) dX3_runFrom_27 (Or.inl ⟨rfl, rfl⟩) mk_3_48 (by decide) me_19 rfl rfl rfl rfl rfl rfl (hd_1_4 _) ?_
          intro K1 hK1
          rw [hK1]
          refine gp_istore (ls' := [some (.ref _), some (.int _), some (.int _), some (.int _), some (.int _), some (.int _), none, none, none]) dX3_runFrom_30 rfl (Nat.le_of_ble_eq_true rfl) ?_
          refine gp_iload dX3_runFrom_32 rfl ?_
          refine gp_call (kind := 0) (args := [.int _]) (rest := _) dX3_runFrom_34 (Or.inl ⟨rfl, rfl⟩) mk_3_38 (by decide) me_102 rfl rfl rfl rfl rfl rfl (ok_X8_isKind _ _ _ _) rfl ?_
          refine gp_ifc (t := 42) dX3_runFrom_37 (by decide) c1_ne (fun h5 => ?_) (fun h5 => ?_)
          · refine gp_gs dX3_runFrom_42 rfl ?_
            refine gp_iload_n dX3_runFrom_45 rfl ?_
            refine gp_pu (st' := .int (7) :: _) dX3_runFrom_46 rfl ?_
            refine gp_pu (st' := .int _ :: _) dX3_runFrom_48 rfl ?_
            refine gp_iload dX3_runFrom_49 rfl ?_
            refine gp_pu (st' := .int _ :: _) dX3_runFrom_51 rfl ?_
            refine gp_iacv (y := (11)) dX3_runFrom_52 rfl (by decide) (by decide) ?_
            refine gp_istore (ls' := [some (.ref _), some (.int _), some (.int _), some (.int _), some (.int _), some (.int _), some (.int _), none, none]) dX3_runFrom_53 rfl (Nat.le_of_ble_eq_true rfl) ?_
            refine gp_gs dX3_runFrom_55 rfl ?_
            refine gp_iload dX3_runFrom_58 rfl ?_
            refine gp_iacv (y := (-1)) dX3_runFrom_60 rfl (by decide) (by decide) ?_
            refine gp_istore (ls' := [some (.ref _), some (.int _), some (.int _), some (.int _), some (.int _), some (.int _), some (.int _), some (.int _), none]) dX3_runFrom_61 rfl (Nat.le_of_ble_eq_true rfl) ?_
            refine gp_iload dX3_runFrom_63 rfl ?_
            refine gp_pu (st' := .int (1) :: _) dX3_runFrom_65 rfl ?_
            refine gp_pu (st' := .int _ :: _) dX3_runFrom_66 rfl ?_
            refine gp_istore (ls' := [some (.ref _), some (.int _), some (.int _), some (.int _), some (.int _), some (.int _), some (.int _), some (.int _), some (.int _)]) dX3_runFrom_67 rfl (Nat.le_of_ble_eq_true rfl) ?_
            refine gp_aload_n dX3_runFrom_69 rfl ?_
            refine gp_iload dX3_runFrom_70 rfl ?_
            refine gp_callX (kind := 1) (args := [.ref _, .int _]) (rest := _) dX3_runFrom_72 (Or.inr (Or.inl ⟨rfl, rfl⟩)) mk_3_52 (by decide) me_18 rfl rfl rfl rfl rfl (mm_rc_of (by first | rfl | assumption | (simp only [*]; done))) (ct_note _ (by omega) h.1) ?_
            intro K2 hK2
            rw [hK2]
            have hm := h.nls [11]
            rw [show ([11] : List Int32).length = 1 from rfl] at hm
            refine gp_iload dX3_runFrom_75 rfl ?_
            refine gp_ls (t := 183) dX3_runFrom_77 (by decide) rfl ?_
            refine gp_aload_n dX3_runFrom_183 rfl ?_
            refine gp_pu (st' := .int (0) :: _) dX3_runFrom_184 rfl ?_
            refine gp_aload_n dX3_runFrom_185 rfl ?_
            refine gp_giv dX3_runFrom_186 mf_3_21 (by decide) (by first | rfl | assumption | (simp only [*]; done)) (by first | exact hm.2.1 | exact hm.2.2.1 | exact hm.2.2.2 | exact rfl) ?_
            refine gp_iload_n dX3_runFrom_189 rfl ?_
            refine gp_iload dX3_runFrom_190 rfl ?_
            refine gp_callX (kind := 0) (args := [.ref _, .int _, .int _, .int _, .int _]) (rest := _) dX3_runFrom_192 (Or.inl ⟨rfl, rfl⟩) mk_3_31 (by decide) me_20 rfl rfl rfl rfl rfl rfl (rn_0_6 _ hm (by omega) (d_inc hd (by decide) (by decide))) ?_
            intro K3 hK3
            rw [hK3]
            refine gp_pu (st' := .int (2) :: _) dX3_runFrom_195 rfl ?_
            refine gp_pu (st' := .int _ :: _) dX3_runFrom_196 rfl ?_
            refine gp_iret dX3_runFrom_197 rfl ?_
            exact pX.mk rfl (nls_app [11] J r [70, 51, 10])
          · exact absurd (by decide) h5
        · exact absurd (by decide) h4

set_option maxHeartbeats 400000 in
theorem rn_1_6_6 (d : Nat) {m a x dd : Int32} {r : Nat} (h : mvs J 6 m a r) (hr : r + 5 ≤ 20) (hd : 0 ≤ dd.toInt ∧ dd.toInt + 4 ≤ 12) : cP (d + 7) 20 [.ref 71, .int 1, .int 6, .int x, .int dd] (mm_sh, mm_R, J, L) (pX (some (.int (((((x - a) + m) - m) * 2) * 2))) L (fun K => K = nls J r [71, 11, 70, 51, 10])) := by
  refine cP.of_gP (d := d + 6) me_20 ⟨Nat.le_of_ble_eq_true rfl, rfl⟩ ?_
  show gP mm_cs0 _ _ _ _ _ _ [some (.ref _), some (.int _), some (.int _), some (.int _), some (.int _), none, none, none, none] [] _ _
  refine gp_iload dX3_runFrom_0 rfl ?_
  refine gp_pu (st' := .int (12) :: _) dX3_runFrom_2 rfl ?_
  refine gp_icc (t := 23) dX3_runFrom_4 (by decide) c2_gt (fun h1 => ?_) (fun h1 => ?_)
  · exact absurd h1 (d_12 hd (by decide))
  · have h1' := Int32.not_lt.mp h1
    refine gp_iload_n dX3_runFrom_7 rfl ?_
    refine gp_ifc (t := 23) dX3_runFrom_8 (by decide) c1_lt (fun h2 => ?_) (fun h2 => ?_)
    · exact absurd h2 (by decide)
    · have h2' := Int32.not_lt.mp h2
      refine gp_iload_n dX3_runFrom_11 rfl ?_
      refine gp_pu (st' := .int (3) :: _) dX3_runFrom_12 rfl ?_
      refine gp_icc (t := 23) dX3_runFrom_13 (by decide) c2_ge (fun h3 => ?_) (fun h3 => ?_)
      · exact absurd h3 (by decide)
      · have h3' := Int32.not_le.mp h3
        refine gp_iload_n dX3_runFrom_16 rfl ?_
        refine gp_call (kind := 0) (args := [.int _]) (rest := _) dX3_runFrom_17 (Or.inl ⟨rfl, rfl⟩) mk_3_38 (by decide) me_102 rfl rfl rfl rfl rfl rfl (ok_X8_isKind _ _ _ _) rfl ?_
        refine gp_ifc (t := 25) dX3_runFrom_20 (by decide) c1_ne (fun h4 => ?_) (fun h4 => ?_)
        · refine gp_iload_n dX3_runFrom_25 rfl ?_
          refine gp_iload_n dX3_runFrom_26 rfl ?_
          refine gp_callX (kind := 0) (args := [.int _, .int _]) (rest := _) dX3_runFrom_27 (Or.inl ⟨rfl, rfl⟩) mk_3_48 (by decide) me_19 rfl rfl rfl rfl rfl rfl (hd_1_6 _) ?_
          intro K1 hK1
          rw [hK1]
          refine gp_istore (ls' := [some (.ref _), some (.int _), some (.int _), some (.int _), some (.int _), some (.int _), none, none, none]) dX3_runFrom_30 rfl (Nat.le_of_ble_eq_true rfl) ?_
          refine gp_iload dX3_runFrom_32 rfl ?_
          refine gp_call (kind := 0) (args := [.int _]) (rest := _) dX3_runFrom_34 (Or.inl ⟨rfl, rfl⟩) mk_3_38 (by decide) me_102 rfl rfl rfl rfl rfl rfl (ok_X8_isKind _ _ _ _) rfl ?_
          refine gp_ifc (t := 42) dX3_runFrom_37 (by decide) c1_ne (fun h5 => ?_) (fun h5 => ?_)
          · refine gp_gs dX3_runFrom_42 rfl ?_
            refine gp_iload_n dX3_runFrom_45 rfl ?_
            refine gp_pu (st' := .int (7) :: _) dX3_runFrom_46 rfl ?_
            refine gp_pu (st' := .int _ :: _) dX3_runFrom_48 rfl ?_
            refine gp_iload dX3_runFrom_49 rfl ?_
            refine gp_pu (st' := .int _ :: _) dX3_runFrom_51 rfl ?_
            refine gp_iacv (y := (71)) dX3_runFrom_52 rfl (by decide) (by decide) ?_
            refine gp_istore (ls' := [some (.ref _), some (.int _), some (.int _), some (.int _), some (.int _), some (.int _), some (.int _), none, none]) dX3_runFrom_53 rfl (Nat.le_of_ble_eq_true rfl) ?_
            refine gp_gs dX3_runFrom_55 rfl ?_
            refine gp_iload dX3_runFrom_58 rfl ?_
            refine gp_iacv (y := (4)) dX3_runFrom_60 rfl (by decide) (by decide) ?_
            refine gp_istore (ls' := [some (.ref _), some (.int _), some (.int _), some (.int _), some (.int _), some (.int _), some (.int _), some (.int _), none]) dX3_runFrom_61 rfl (Nat.le_of_ble_eq_true rfl) ?_
            refine gp_iload dX3_runFrom_63 rfl ?_
            refine gp_pu (st' := .int (1) :: _) dX3_runFrom_65 rfl ?_
            refine gp_pu (st' := .int _ :: _) dX3_runFrom_66 rfl ?_
            refine gp_istore (ls' := [some (.ref _), some (.int _), some (.int _), some (.int _), some (.int _), some (.int _), some (.int _), some (.int _), some (.int _)]) dX3_runFrom_67 rfl (Nat.le_of_ble_eq_true rfl) ?_
            refine gp_aload_n dX3_runFrom_69 rfl ?_
            refine gp_iload dX3_runFrom_70 rfl ?_
            refine gp_callX (kind := 1) (args := [.ref _, .int _]) (rest := _) dX3_runFrom_72 (Or.inr (Or.inl ⟨rfl, rfl⟩)) mk_3_52 (by decide) me_18 rfl rfl rfl rfl rfl (mm_rc_of (by first | rfl | assumption | (simp only [*]; done))) (ct_note _ (by omega) h.1) ?_
            intro K2 hK2
            rw [hK2]
            have hm := h.nls [71]
            rw [show ([71] : List Int32).length = 1 from rfl] at hm
            refine gp_iload dX3_runFrom_75 rfl ?_
            refine gp_ls (t := 325) dX3_runFrom_77 (by decide) rfl ?_
            refine gp_aload_n dX3_runFrom_325 rfl ?_
            refine gp_pu (st' := .int (1) :: _) dX3_runFrom_326 rfl ?_
            refine gp_iload dX3_runFrom_327 rfl ?_
            refine gp_iload_n dX3_runFrom_329 rfl ?_
            refine gp_aload_n dX3_runFrom_330 rfl ?_
            refine gp_giv dX3_runFrom_331 mf_3_28 (by decide) (by first | rfl | assumption | (simp only [*]; done)) (by first | exact hm.2.1 | exact hm.2.2.1 | exact hm.2.2.2 | exact rfl) ?_
            refine gp_pu (st' := .int _ :: _) dX3_runFrom_334 rfl ?_
            refine gp_iload dX3_runFrom_335 rfl ?_
            refine gp_callX (kind := 0) (args := [.ref _, .int _, .int _, .int _, .int _]) (rest := _) dX3_runFrom_337 (Or.inl ⟨rfl, rfl⟩) mk_3_31 (by decide) me_20 rfl rfl rfl rfl rfl rfl (rn_1_4_6 _ hm (by omega) (d_inc hd (by decide) (by decide))) ?_
            intro K3 hK3
            rw [hK3]
            refine gp_iret dX3_runFrom_340 rfl ?_
            exact pX.mk rfl (nls_app [71] J r [11, 70, 51, 10])
          · exact absurd (by decide) h5
        · exact absurd (by decide) h4

set_option maxHeartbeats 400000 in
theorem rn_2_0_6 (d : Nat) {m a x dd : Int32} {r : Nat} (h : mvs J 6 m a r) (hr : r + 9 ≤ 20) (hd : 0 ≤ dd.toInt ∧ dd.toInt + 5 ≤ 12) : cP (d + 8) 20 [.ref 71, .int 2, .int 0, .int x, .int dd] (mm_sh, mm_R, J, L) (pX (some (.int ((((((x - a) + m) - m) * 2) * 2) ^^^ ((((x - a) + m) - m) * 2)))) L (fun K => K = nls J r [12, 71, 11, 70, 51, 10, 70, 51, 10])) := by
  refine cP.of_gP (d := d + 7) me_20 ⟨Nat.le_of_ble_eq_true rfl, rfl⟩ ?_
  show gP mm_cs0 _ _ _ _ _ _ [some (.ref _), some (.int _), some (.int _), some (.int _), some (.int _), none, none, none, none] [] _ _
  refine gp_iload dX3_runFrom_0 rfl ?_
  refine gp_pu (st' := .int (12) :: _) dX3_runFrom_2 rfl ?_
  refine gp_icc (t := 23) dX3_runFrom_4 (by decide) c2_gt (fun h1 => ?_) (fun h1 => ?_)
  · exact absurd h1 (d_12 hd (by decide))
  · have h1' := Int32.not_lt.mp h1
    refine gp_iload_n dX3_runFrom_7 rfl ?_
    refine gp_ifc (t := 23) dX3_runFrom_8 (by decide) c1_lt (fun h2 => ?_) (fun h2 => ?_)
    · exact absurd h2 (by decide)
    · have h2' := Int32.not_lt.mp h2
      refine gp_iload_n dX3_runFrom_11 rfl ?_
      refine gp_pu (st' := .int (3) :: _) dX3_runFrom_12 rfl ?_
      refine gp_icc (t := 23) dX3_runFrom_13 (by decide) c2_ge (fun h3 => ?_) (fun h3 => ?_)
      · exact absurd h3 (by decide)
      · have h3' := Int32.not_le.mp h3
        refine gp_iload_n dX3_runFrom_16 rfl ?_
        refine gp_call (kind := 0) (args := [.int _]) (rest := _) dX3_runFrom_17 (Or.inl ⟨rfl, rfl⟩) mk_3_38 (by decide) me_102 rfl rfl rfl rfl rfl rfl (ok_X8_isKind _ _ _ _) rfl ?_
        refine gp_ifc (t := 25) dX3_runFrom_20 (by decide) c1_ne (fun h4 => ?_) (fun h4 => ?_)
        · refine gp_iload_n dX3_runFrom_25 rfl ?_
          refine gp_iload_n dX3_runFrom_26 rfl ?_
          refine gp_callX (kind := 0) (args := [.int _, .int _]) (rest := _) dX3_runFrom_27 (Or.inl ⟨rfl, rfl⟩) mk_3_48 (by decide) me_19 rfl rfl rfl rfl rfl rfl (hd_2_0 _) ?_
          intro K1 hK1
          rw [hK1]
          refine gp_istore (ls' := [some (.ref _), some (.int _), some (.int _), some (.int _), some (.int _), some (.int _), none, none, none]) dX3_runFrom_30 rfl (Nat.le_of_ble_eq_true rfl) ?_
          refine gp_iload dX3_runFrom_32 rfl ?_
          refine gp_call (kind := 0) (args := [.int _]) (rest := _) dX3_runFrom_34 (Or.inl ⟨rfl, rfl⟩) mk_3_38 (by decide) me_102 rfl rfl rfl rfl rfl rfl (ok_X8_isKind _ _ _ _) rfl ?_
          refine gp_ifc (t := 42) dX3_runFrom_37 (by decide) c1_ne (fun h5 => ?_) (fun h5 => ?_)
          · refine gp_gs dX3_runFrom_42 rfl ?_
            refine gp_iload_n dX3_runFrom_45 rfl ?_
            refine gp_pu (st' := .int (7) :: _) dX3_runFrom_46 rfl ?_
            refine gp_pu (st' := .int _ :: _) dX3_runFrom_48 rfl ?_
            refine gp_iload dX3_runFrom_49 rfl ?_
            refine gp_pu (st' := .int _ :: _) dX3_runFrom_51 rfl ?_
            refine gp_iacv (y := (12)) dX3_runFrom_52 rfl (by decide) (by decide) ?_
            refine gp_istore (ls' := [some (.ref _), some (.int _), some (.int _), some (.int _), some (.int _), some (.int _), some (.int _), none, none]) dX3_runFrom_53 rfl (Nat.le_of_ble_eq_true rfl) ?_
            refine gp_gs dX3_runFrom_55 rfl ?_
            refine gp_iload dX3_runFrom_58 rfl ?_
            refine gp_iacv (y := (-1)) dX3_runFrom_60 rfl (by decide) (by decide) ?_
            refine gp_istore (ls' := [some (.ref _), some (.int _), some (.int _), some (.int _), some (.int _), some (.int _), some (.int _), some (.int _), none]) dX3_runFrom_61 rfl (Nat.le_of_ble_eq_true rfl) ?_
            refine gp_iload dX3_runFrom_63 rfl ?_
            refine gp_pu (st' := .int (1) :: _) dX3_runFrom_65 rfl ?_
            refine gp_pu (st' := .int _ :: _) dX3_runFrom_66 rfl ?_
            refine gp_istore (ls' := [some (.ref _), some (.int _), some (.int _), some (.int _), some (.int _), some (.int _), some (.int _), some (.int _), some (.int _)]) dX3_runFrom_67 rfl (Nat.le_of_ble_eq_true rfl) ?_
            refine gp_aload_n dX3_runFrom_69 rfl ?_
            refine gp_iload dX3_runFrom_70 rfl ?_
            refine gp_callX (kind := 1) (args := [.ref _, .int _]) (rest := _) dX3_runFrom_72 (Or.inr (Or.inl ⟨rfl, rfl⟩)) mk_3_52 (by decide) me_18 rfl rfl rfl rfl rfl (mm_rc_of (by first | rfl | assumption | (simp only [*]; done))) (ct_note _ (by omega) h.1) ?_
            intro K2 hK2
            rw [hK2]
            have hm := h.nls [12]
            rw [show ([12] : List Int32).length = 1 from rfl] at hm
            refine gp_iload dX3_runFrom_75 rfl ?_
            refine gp_ls (t := 198) dX3_runFrom_77 (by decide) rfl ?_
            refine gp_aload_n dX3_runFrom_198 rfl ?_
            refine gp_pu (st' := .int (1) :: _) dX3_runFrom_199 rfl ?_
            refine gp_aload_n dX3_runFrom_200 rfl ?_
            refine gp_giv dX3_runFrom_201 mf_3_21 (by decide) (by first | rfl | assumption | (simp only [*]; done)) (by first | exact hm.2.1 | exact hm.2.2.1 | exact hm.2.2.2 | exact rfl) ?_
            refine gp_iload_n dX3_runFrom_204 rfl ?_
            refine gp_iload dX3_runFrom_205 rfl ?_
            refine gp_callX (kind := 0) (args := [.ref _, .int _, .int _, .int _, .int _]) (rest := _) dX3_runFrom_207 (Or.inl ⟨rfl, rfl⟩) mk_3_31 (by decide) me_20 rfl rfl rfl rfl rfl rfl (rn_1_6_6 _ hm (by omega) (d_inc hd (by decide) (by decide))) ?_
            intro K3 hK3
            rw [hK3]
            have hm2 := hm.nls [71, 11, 70, 51, 10]
            rw [show ([71, 11, 70, 51, 10] : List Int32).length = 5 from rfl] at hm2
            refine gp_aload_n dX3_runFrom_210 rfl ?_
            refine gp_pu (st' := .int (0) :: _) dX3_runFrom_211 rfl ?_
            refine gp_aload_n dX3_runFrom_212 rfl ?_
            refine gp_giv dX3_runFrom_213 mf_3_21 (by decide) (by first | rfl | assumption | (simp only [*]; done)) (by first | exact hm2.2.1 | exact hm2.2.2.1 | exact hm2.2.2.2 | exact hm.2.1 | exact hm.2.2.1 | exact hm.2.2.2 | exact rfl) ?_
            refine gp_iload_n dX3_runFrom_216 rfl ?_
            refine gp_aload_n dX3_runFrom_217 rfl ?_
            refine gp_giv dX3_runFrom_218 mf_3_28 (by decide) (by first | rfl | assumption | (simp only [*]; done)) (by first | exact hm2.2.1 | exact hm2.2.2.1 | exact hm2.2.2.2 | exact hm.2.1 | exact hm.2.2.1 | exact hm.2.2.2 | exact rfl) ?_
            refine gp_pu (st' := .int _ :: _) dX3_runFrom_221 rfl ?_
            refine gp_iload dX3_runFrom_222 rfl ?_
            refine gp_callX (kind := 0) (args := [.ref _, .int _, .int _, .int _, .int _]) (rest := _) dX3_runFrom_224 (Or.inl ⟨rfl, rfl⟩) mk_3_31 (by decide) me_20 rfl rfl rfl rfl rfl rfl (rn_0_6 _ hm2 (by omega) (d_inc hd (by decide) (by decide))) ?_
            intro K4 hK4
            rw [hK4]
            refine gp_pu (st' := .int _ :: _) dX3_runFrom_227 rfl ?_
            refine gp_iret dX3_runFrom_228 rfl ?_
            (refine pX.mk rfl ?_
             have q1 := nls_app [12] J r [71, 11, 70, 51, 10]
             have q2 := nls_app ([12] ++ [71, 11, 70, 51, 10]) J r [70, 51, 10]
             rw [← q1] at q2
             rw [show ([12] ++ [71, 11, 70, 51, 10] : List Int32).length = 6 from rfl, show ([12] : List Int32).length = 1 from rfl] at q2
             exact q2)
          · exact absurd (by decide) h5
        · exact absurd (by decide) h4

set_option maxHeartbeats 400000 in
theorem rn_2_6_6 (d : Nat) {m a x dd : Int32} {r : Nat} (h : mvs J 6 m a r) (hr : r + 10 ≤ 20) (hd : 0 ≤ dd.toInt ∧ dd.toInt + 6 ≤ 12) : cP (d + 9) 20 [.ref 71, .int 2, .int 6, .int x, .int dd] (mm_sh, mm_R, J, L) (pX (some (.int (-((((((x - a) + m) - m) * 2) * 2) ^^^ ((((x - a) + m) - m) * 2))))) L (fun K => K = nls J r [50, 12, 71, 11, 70, 51, 10, 70, 51, 10])) := by
  refine cP.of_gP (d := d + 8) me_20 ⟨Nat.le_of_ble_eq_true rfl, rfl⟩ ?_
  show gP mm_cs0 _ _ _ _ _ _ [some (.ref _), some (.int _), some (.int _), some (.int _), some (.int _), none, none, none, none] [] _ _
  refine gp_iload dX3_runFrom_0 rfl ?_
  refine gp_pu (st' := .int (12) :: _) dX3_runFrom_2 rfl ?_
  refine gp_icc (t := 23) dX3_runFrom_4 (by decide) c2_gt (fun h1 => ?_) (fun h1 => ?_)
  · exact absurd h1 (d_12 hd (by decide))
  · have h1' := Int32.not_lt.mp h1
    refine gp_iload_n dX3_runFrom_7 rfl ?_
    refine gp_ifc (t := 23) dX3_runFrom_8 (by decide) c1_lt (fun h2 => ?_) (fun h2 => ?_)
    · exact absurd h2 (by decide)
    · have h2' := Int32.not_lt.mp h2
      refine gp_iload_n dX3_runFrom_11 rfl ?_
      refine gp_pu (st' := .int (3) :: _) dX3_runFrom_12 rfl ?_
      refine gp_icc (t := 23) dX3_runFrom_13 (by decide) c2_ge (fun h3 => ?_) (fun h3 => ?_)
      · exact absurd h3 (by decide)
      · have h3' := Int32.not_le.mp h3
        refine gp_iload_n dX3_runFrom_16 rfl ?_
        refine gp_call (kind := 0) (args := [.int _]) (rest := _) dX3_runFrom_17 (Or.inl ⟨rfl, rfl⟩) mk_3_38 (by decide) me_102 rfl rfl rfl rfl rfl rfl (ok_X8_isKind _ _ _ _) rfl ?_
        refine gp_ifc (t := 25) dX3_runFrom_20 (by decide) c1_ne (fun h4 => ?_) (fun h4 => ?_)
        · refine gp_iload_n dX3_runFrom_25 rfl ?_
          refine gp_iload_n dX3_runFrom_26 rfl ?_
          refine gp_callX (kind := 0) (args := [.int _, .int _]) (rest := _) dX3_runFrom_27 (Or.inl ⟨rfl, rfl⟩) mk_3_48 (by decide) me_19 rfl rfl rfl rfl rfl rfl (hd_2_6 _) ?_
          intro K1 hK1
          rw [hK1]
          refine gp_istore (ls' := [some (.ref _), some (.int _), some (.int _), some (.int _), some (.int _), some (.int _), none, none, none]) dX3_runFrom_30 rfl (Nat.le_of_ble_eq_true rfl) ?_
          refine gp_iload dX3_runFrom_32 rfl ?_
          refine gp_call (kind := 0) (args := [.int _]) (rest := _) dX3_runFrom_34 (Or.inl ⟨rfl, rfl⟩) mk_3_38 (by decide) me_102 rfl rfl rfl rfl rfl rfl (ok_X8_isKind _ _ _ _) rfl ?_
          refine gp_ifc (t := 42) dX3_runFrom_37 (by decide) c1_ne (fun h5 => ?_) (fun h5 => ?_)
          · refine gp_gs dX3_runFrom_42 rfl ?_
            refine gp_iload_n dX3_runFrom_45 rfl ?_
            refine gp_pu (st' := .int (7) :: _) dX3_runFrom_46 rfl ?_
            refine gp_pu (st' := .int _ :: _) dX3_runFrom_48 rfl ?_
            refine gp_iload dX3_runFrom_49 rfl ?_
            refine gp_pu (st' := .int _ :: _) dX3_runFrom_51 rfl ?_
            refine gp_iacv (y := (50)) dX3_runFrom_52 rfl (by decide) (by decide) ?_
            refine gp_istore (ls' := [some (.ref _), some (.int _), some (.int _), some (.int _), some (.int _), some (.int _), some (.int _), none, none]) dX3_runFrom_53 rfl (Nat.le_of_ble_eq_true rfl) ?_
            refine gp_gs dX3_runFrom_55 rfl ?_
            refine gp_iload dX3_runFrom_58 rfl ?_
            refine gp_iacv (y := (0)) dX3_runFrom_60 rfl (by decide) (by decide) ?_
            refine gp_istore (ls' := [some (.ref _), some (.int _), some (.int _), some (.int _), some (.int _), some (.int _), some (.int _), some (.int _), none]) dX3_runFrom_61 rfl (Nat.le_of_ble_eq_true rfl) ?_
            refine gp_iload dX3_runFrom_63 rfl ?_
            refine gp_pu (st' := .int (1) :: _) dX3_runFrom_65 rfl ?_
            refine gp_pu (st' := .int _ :: _) dX3_runFrom_66 rfl ?_
            refine gp_istore (ls' := [some (.ref _), some (.int _), some (.int _), some (.int _), some (.int _), some (.int _), some (.int _), some (.int _), some (.int _)]) dX3_runFrom_67 rfl (Nat.le_of_ble_eq_true rfl) ?_
            refine gp_aload_n dX3_runFrom_69 rfl ?_
            refine gp_iload dX3_runFrom_70 rfl ?_
            refine gp_callX (kind := 1) (args := [.ref _, .int _]) (rest := _) dX3_runFrom_72 (Or.inr (Or.inl ⟨rfl, rfl⟩)) mk_3_52 (by decide) me_18 rfl rfl rfl rfl rfl (mm_rc_of (by first | rfl | assumption | (simp only [*]; done))) (ct_note _ (by omega) h.1) ?_
            intro K2 hK2
            rw [hK2]
            have hm := h.nls [50]
            rw [show ([50] : List Int32).length = 1 from rfl] at hm
            refine gp_iload dX3_runFrom_75 rfl ?_
            refine gp_ls (t := 271) dX3_runFrom_77 (by decide) rfl ?_
            refine gp_aload_n dX3_runFrom_271 rfl ?_
            refine gp_pu (st' := .int (2) :: _) dX3_runFrom_272 rfl ?_
            refine gp_iload dX3_runFrom_273 rfl ?_
            refine gp_iload_n dX3_runFrom_275 rfl ?_
            refine gp_iload dX3_runFrom_276 rfl ?_
            refine gp_callX (kind := 0) (args := [.ref _, .int _, .int _, .int _, .int _]) (rest := _) dX3_runFrom_278 (Or.inl ⟨rfl, rfl⟩) mk_3_31 (by decide) me_20 rfl rfl rfl rfl rfl rfl (rn_2_0_6 _ hm (by omega) (d_inc hd (by decide) (by decide))) ?_
            intro K3 hK3
            rw [hK3]
            refine gp_pu (st' := .int _ :: _) dX3_runFrom_281 rfl ?_
            refine gp_iret dX3_runFrom_282 rfl ?_
            exact pX.mk rfl (nls_app [50] J r [12, 71, 11, 70, 51, 10, 70, 51, 10])
          · exact absurd (by decide) h5
        · exact absurd (by decide) h4
end P82
