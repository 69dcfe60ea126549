/-! PUBLIC METHODS: field: the class -/
section P98ve
variable {I C J K V : pI} {L : pL} {N S : Nat} {t : Nat → Int32} {z E w : Nat} {f : Nat → Int32}

def y_rk (R : (Nat × Nat) ⊕ (Nat × pI)) : Nat := match R with
  | .inl q => q.2
  | .inr q => q.1
def rdX (I : pI) (R : (Nat × Nat) ⊕ (Nat × pI)) (K : pI) : Prop := oIm R (fun q => sc I K ∧ K 65 2 = nI q.1) (fun _ V1 => sc I K ∧ K 65 2 = -1 ∧ rF 21 K V1)
/-- what reading leaves -/
theorem y_rd_q (ht : ∀ p, E ≤ p → t p = 0) (n : Nat) : ∀ (k p : Nat) (V : pI) (N S : Nat), p ≤ E → vN V N S → oIm (y_rd t E n k p V) (fun q => q.1 ≤ E + 5) (fun _ V1 => (∃ N1 S1, vN V1 N1 S1) ∧ (∀ k j, ¬ fK8 k j → V1 k j = V k j) ∧ V 108 0 ≤ V1 108 0) := by
  induction n with
  | zero => intro k p V N S hp _; show p ≤ E + 5; omega
  | succ n ih =>
    intro k p V N S hp v
    have hq := y_im_q ht v hp
    cases hR : y_im t V p with
    | inl e => rw [hR] at hq; rw [y_rd_e hR]; exact hq
    | inr r =>
      obtain ⟨q, V1⟩ := r
      rw [hR] at hq
      obtain ⟨a1, a2, ⟨N1, S1, a3⟩, a4, a5⟩ := hq
      by_cases h1 : E ≤ q
      · rw [y_rd_k hR h1]; exact ⟨⟨N1, S1, a3⟩, a4, a5⟩
      · by_cases h2 : t q = 59
        · rw [y_rd_s hR h1 h2]
          have := ih (k + 1) (q + 1) V1 N1 S1 (by omega) a3
          revert this
          cases y_rd t E n (k + 1) (q + 1) V1 with
          | inl e => exact id
          | inr r =>
            rintro ⟨b1, b2, b3⟩
            exact ⟨b1, fun k j hk => (b2 k j hk).trans (a4 k j hk), Int32.le_trans a5 b3⟩
        · rw [y_rd_x hR h1 h2]; show q ≤ E + 5; omega

set_option maxHeartbeats 800000 in
theorem lp_rd (d : Nat) (hz : 76 ≤ z) (n : Nat) : ∀ (k p : Nat) (V J : pI) (N S : Nat), k + n = 161 → E < p + 2 * n → p ≤ E → vN V N S → cst I z t E L V p J → J 65 2 = -1 → gP mm_cs0 (d + 7) 5 false (some .int) cX5_read 12 [some (.ref 65), some (.ref z), some (.ref 21), some (.int (nI k))] [] (mm_sh, mm_R, J, L) (pX (some (.int (nI (y_rk (y_rd t E n k p V))))) L (rdX I (y_rd t E n k p V))) := by
  induction n with
  | zero => intro k p V J N S _ h1 h2; exact absurd h1 (by omega)
  | succ n ih =>
    intro k p V J N S hkn hEp hp v h hw0
    have hc1 : ¬ (160 : Int32) < nI k := nI_nlt (a := 160) (b := k) (by omega) (by omega)
    have hzi : isSh z := h.2.1.1
    have hE := h.2.1.2.1
    have hq := y_im_q h.2.1.2.2.2.2 v hp
    cases hR : y_im t V p with
    | inl e =>
      rw [hR] at hq
      have hq : e ≤ E + 5 := hq
      refine gp_iload_n dX5_read_12 rfl ?_
      refine gp_pu (st' := .int (160) :: _) dX5_read_13 rfl ?_
      refine gp_icc (t := 85) dX5_read_16 (by decide) c2_gt (fun h1 => ?_) (fun h1 => ?_)
      · exact absurd h1 hc1
      · have h1' := Int32.not_lt.mp h1
        refine gp_aload_n dX5_read_19 rfl ?_
        refine gp_aload_n dX5_read_20 rfl ?_
        refine gp_aload_n dX5_read_21 rfl ?_
        refine gp_callX (kind := 1) (args := [.ref _, .ref _, .ref _]) (rest := _) dX5_read_22 (Or.inr (Or.inl ⟨rfl, rfl⟩)) mk_5_22 (by decide) me_36 rfl rfl rfl rfl rfl (mm_rc_of (by first | rfl | assumption | (simp only [*]; done))) (ct_readItem _ hz v h hw0 hp) ?_
        intro K1 zqk1
        have zqa : sc I K1 ∧ K1 65 2 = nI e := by rw [hR] at zqk1; exact zqk1
        refine gp_aload_n dX5_read_25 rfl ?_
        refine gp_giv dX5_read_26 mf_5_15 (by decide) (by first | rfl | assumption | (simp only [*]; done)) (by first | exact zqa.2 | exact rfl) ?_
        refine gp_pu (st' := .int (-1) :: _) dX5_read_29 rfl ?_
        refine gp_icc (t := 44) dX5_read_30 (by decide) c2_ne (fun h2 => ?_) (fun h2 => ?_)
        · refine gp_iload_n dX5_read_44 rfl ?_
          refine gp_iret dX5_read_45 rfl ?_
          exact pX.mk (by rw [y_rd_e hR]; rfl) (by rw [y_rd_e hR]; exact zqa)
        · exact absurd (Classical.not_not.mp h2) (nI_n1 (by omega))
    | inr r =>
      obtain ⟨q, V1⟩ := r
      rw [hR] at hq
      obtain ⟨a1, a2, ⟨N1, S1, a3⟩, a4, a5⟩ := hq
      have zqE : ¬ nI q < nI E → E ≤ q := fun y => by
        by_cases x : E ≤ q
        · exact x
        · exact absurd (nI_lt (by omega) (by omega)) y
      have zqF : nI q < nI E → ¬ E ≤ q := fun y x => absurd y (nI_nlt x (by omega))
      refine gp_iload_n dX5_read_12 rfl ?_
      refine gp_pu (st' := .int (160) :: _) dX5_read_13 rfl ?_
      refine gp_icc (t := 85) dX5_read_16 (by decide) c2_gt (fun h1 => ?_) (fun h1 => ?_)
      · exact absurd h1 hc1
      · have h1' := Int32.not_lt.mp h1
        refine gp_aload_n dX5_read_19 rfl ?_
        refine gp_aload_n dX5_read_20 rfl ?_
        refine gp_aload_n dX5_read_21 rfl ?_
        refine gp_callX (kind := 1) (args := [.ref _, .ref _, .ref _]) (rest := _) dX5_read_22 (Or.inr (Or.inl ⟨rfl, rfl⟩)) mk_5_22 (by decide) me_36 rfl rfl rfl rfl rfl (mm_rc_of (by first | rfl | assumption | (simp only [*]; done))) (ct_readItem _ hz v h hw0 hp) ?_
        intro K1 zqk1
        have zqa : cst I z t E L V1 q K1 ∧ K1 65 2 = -1 := by rw [hR] at zqk1; exact zqk1
        refine gp_aload_n dX5_read_25 rfl ?_
        refine gp_giv dX5_read_26 mf_5_15 (by decide) (by first | rfl | assumption | (simp only [*]; done)) (by first | exact zqa.2 | exact zqa.1.2.2.2 | exact zqa.1.2.1.2.2.1 | exact rfl) ?_
        refine gp_pu (st' := .int (-1) :: _) dX5_read_29 rfl ?_
        refine gp_icc (t := 44) dX5_read_30 (by decide) c2_ne (fun h2 => ?_) (fun h2 => ?_)
        · exact absurd rfl h2
        · refine gp_aload_n dX5_read_33 rfl ?_
          refine gp_giv dX5_read_34 mf_5_19 (by decide) (by first | rfl | assumption | (simp only [*]; done)) (by first | exact zqa.2 | exact zqa.1.2.2.2 | exact zqa.1.2.1.2.2.1 | exact rfl) ?_
          refine gp_aload_n dX5_read_37 rfl ?_
          refine gp_giv dX5_read_38 mf_5_26 (by decide) hzi.1 (by first | exact zqa.2 | exact zqa.1.2.2.2 | exact zqa.1.2.1.2.2.1 | exact rfl) ?_
          refine gp_icc (t := 46) dX5_read_41 (by decide) c2_lt (fun h3 => ?_) (fun h3 => ?_)
          · have h3' := Int32.not_le.mpr h3
            refine gp_aload_n dX5_read_46 rfl ?_
            refine gp_aload_n dX5_read_47 rfl ?_
            refine gp_giv dX5_read_48 mf_5_19 (by decide) (by first | rfl | assumption | (simp only [*]; done)) (by first | exact zqa.2 | exact zqa.1.2.2.2 | exact zqa.1.2.1.2.2.1 | exact rfl) ?_
            refine gp_call (kind := 1) (args := [.ref _, .int _]) (rest := _) dX5_read_51 (Or.inr (Or.inl ⟨rfl, rfl⟩)) mk_5_31 (by decide) me_58 rfl rfl rfl rfl rfl (mm_rc_of hzi.1) (ok_asT _ zqa.1.2.1 rfl (by omega)) rfl ?_
            refine gp_pu (st' := .int (59) :: _) dX5_read_54 rfl ?_
            refine gp_icc (t := 69) dX5_read_56 (by decide) c2_eq (fun h4 => ?_) (fun h4 => ?_)
            · refine gp_aload_n dX5_read_69 rfl ?_
              refine gp_pu dX5_read_70 rfl ?_
              refine gp_giv dX5_read_71 mf_5_19 (by decide) (by first | rfl | assumption | (simp only [*]; done)) (by first | exact zqa.2 | exact zqa.1.2.2.2 | exact zqa.1.2.1.2.2.1 | exact rfl) ?_
              refine gp_pu (st' := .int (1) :: _) dX5_read_74 rfl ?_
              refine gp_pu (st' := .int _ :: _) dX5_read_75 rfl ?_
              refine gp_pi dX5_read_76 mf_5_19 rfl rfl (by first | rfl | assumption | (simp only [*]; done)) ?_
              refine gp_iinc (v := (1)) (ls' := [some (.ref _), some (.ref _), some (.ref _), some (.int _)]) dX5_read_79 rfl (by decide) rfl ?_
              refine gp_goto (t := 12) dX5_read_82 (by decide) ?_
              (rw [nI_1, nI_1, y_rd_s hR (zqF h3) h4]
               have hqE := zqF h3
               have hwr := zqa.1.wr (K := mm_u K1 65 1 (nI (q + 1))) hz (fun c b1 _ => mm_u_k _ _ _ b1)
               exact ih (k + 1) (q + 1) V1 _ N1 S1 (by omega) (by omega) (by omega) a3 ⟨hwr.1, hwr.2.1, hwr.2.2, mm_u_s _ _ _ _⟩ ((mm_u_j _ _ (by decide)).trans zqa.2))
            · refine gp_aload_n dX5_read_59 rfl ?_
              refine gp_aload_n dX5_read_60 rfl ?_
              refine gp_giv dX5_read_61 mf_5_19 (by decide) (by first | rfl | assumption | (simp only [*]; done)) (by first | exact zqa.2 | exact zqa.1.2.2.2 | exact zqa.1.2.1.2.2.1 | exact rfl) ?_
              refine gp_pi dX5_read_64 mf_5_15 rfl rfl (by first | rfl | assumption | (simp only [*]; done)) ?_
              refine gp_iload_n dX5_read_67 rfl ?_
              refine gp_iret dX5_read_68 rfl ?_
              exact pX.mk (by rw [y_rd_x hR (zqF h3) h4]; rfl) (by rw [y_rd_x hR (zqF h3) h4]; exact ⟨zqa.1.1.u rfl, mm_u_s _ _ _ _⟩)
          · have h3' := Int32.not_lt.mp h3
            refine gp_iload_n dX5_read_44 rfl ?_
            refine gp_iret dX5_read_45 rfl ?_
            exact pX.mk (by rw [y_rd_k hR (zqE h3)]; rfl) (by rw [y_rd_k hR (zqE h3)]; exact ⟨zqa.1.1, zqa.2, zqa.1.2.2.1⟩)

set_option maxHeartbeats 400000 in
theorem ct_read (d : Nat) (hz : 76 ≤ z) (v : vN V N S) (h1 : sc I J) (h2 : txC z t E L J) (h3 : rF 21 J V) : cP (d + 8) 35 [.ref 65, .ref z, .ref 21] (mm_sh, mm_R, J, L) (pX (some (.int (nI (y_rk (y_rd t E 160 1 0 V))))) L (rdX I (y_rd t E 160 1 0 V))) := by
  have hE := h2.2.1
  refine cP.of_gP (d := d + 7) me_35 ⟨Nat.le_of_ble_eq_true rfl, rfl⟩ ?_
  show gP mm_cs0 _ _ _ _ _ _ [some (.ref _), some (.ref _), some (.ref _), none] [] _ _
  refine gp_aload_n dX5_read_0 rfl ?_
  refine gp_pu (st' := .int (0) :: _) dX5_read_1 rfl ?_
  refine gp_pi dX5_read_2 mf_5_19 rfl rfl (by first | rfl | assumption | (simp only [*]; done)) ?_
  refine gp_aload_n dX5_read_5 rfl ?_
  refine gp_pu (st' := .int (-1) :: _) dX5_read_6 rfl ?_
  refine gp_pi dX5_read_7 mf_5_15 rfl rfl (by first | rfl | assumption | (simp only [*]; done)) ?_
  refine gp_pu (st' := .int (1) :: _) dX5_read_10 rfl ?_
  refine gp_istore_n (ls' := [some (.ref _), some (.ref _), some (.ref _), some (.int _)]) dX5_read_11 rfl (Nat.le_of_ble_eq_true rfl) ?_
  exact lp_rd d hz 160 1 0 V _ N S (by omega) (by omega) (Nat.zero_le _) v ⟨(h1.u rfl).u rfl, h2.cg (fun j => by rw [mm_u_o _ _ _ _ (by omega), mm_u_o _ _ _ _ (by omega)]), h3.o65 (fun c b1 _ => by rw [mm_u_k _ _ _ b1, mm_u_k _ _ _ b1]), (mm_u_j _ _ (by decide)).trans (mm_u_s _ _ _ _)⟩ (mm_u_s _ _ _ _)

/-- the text of a shelf -/
def y_tx (L : pL) (s E : Nat) (p : Nat) : Int32 := if p < E then tld L s p else 0
theorem wi_cl {x : Int32} {b : Nat} (h : wi x 0 b) : x.toNatClampNeg ≤ b := by
  have := h.2
  unfold Int32.toNatClampNeg
  omega
theorem txC_s (hS : ∀ s, s < 8 → rSh I s) (hL : rL L) (hs : sc I J) {s : Int32} (h : m_want I s = 0) : txC (76 + 2 * s.toNatClampNeg) (y_tx L s.toNatClampNeg (I 120 s.toNatClampNeg).toNatClampNeg) (I 120 s.toNatClampNeg).toNatClampNeg L J := by
  obtain ⟨r1, r2, r3, r4, r5, r6⟩ := want_0 hS h
  have h5 := (sh_s r1).2.2.2.2
  have e160 : (I 120 s.toNatClampNeg).toNatClampNeg ≤ 160 := wi_cl r6
  refine ⟨(sh_s r1).2.2.1, e160, ?_, fun p hp => ?_, fun p hp => if_neg (by omega)⟩
  · rw [hs _ _ (scr_c h5 1).2.2, r5, nI_cl (by rw [ti_le, ti_0]; exact r6.1)]
  · rw [show 76 + 2 * s.toNatClampNeg + 1 = 77 + 2 * s.toNatClampNeg by omega, hL _ h5 p (by omega)]
    exact (if_pos hp).symm
/-- the class's field as V shows it, all else as in I -/
def fC (I V : pI) : pI := fun a b => if a = 1 ∧ b = 1 then V 108 0 else if a = 1 ∧ b = 3 then V 108 1 else if a = 1 ∧ b = 5 then V 108 6 else if a = 1 ∧ b = 6 then V 108 7 else if a = 1 ∧ b = 7 then V 108 8 else if a = 4 ∧ b < 4 then V 108 (2 + b) else if 5 ≤ a ∧ a < 13 ∧ b < 6 then V (110 + b) (a - 5) else if 13 ≤ a ∧ a < 21 ∧ b < 2 then V (116 + b) (a - 13) else I a b
theorem fC_F (I V : pI) : rF 1 (fC I V) V := by
  unfold rF fC
  refine ⟨?_, ?_, ?_, ?_, ?_, fun w hw => ?_, fun c hc j hj => ?_, fun k hk j hj => ?_⟩
  · rw [if_pos (by omega)]
  · rw [if_neg (by omega), if_pos (by omega)]
  · rw [if_neg (by omega), if_neg (by omega), if_pos (by omega)]
  · rw [if_neg (by omega), if_neg (by omega), if_neg (by omega), if_pos (by omega)]
  · rw [if_neg (by omega), if_neg (by omega), if_neg (by omega), if_neg (by omega), if_pos (by omega)]
  · rw [if_neg (by omega), if_neg (by omega), if_neg (by omega), if_neg (by omega), if_neg (by omega), if_pos (by omega)]
  · rw [if_neg (by omega), if_neg (by omega), if_neg (by omega), if_neg (by omega), if_neg (by omega), if_neg (by omega), if_pos (by omega), show 1 + 4 + c - 5 = c by omega]
  · rw [if_neg (by omega), if_neg (by omega), if_neg (by omega), if_neg (by omega), if_neg (by omega), if_neg (by omega), if_neg (by omega), if_pos (by omega), show 1 + 12 + k - 13 = k by omega]
theorem fC_o (I V : pI) {a : Nat} (h : ¬ (1 ≤ a ∧ a ≤ 20)) : fC I V a = I a := by
  funext b
  unfold fC
  rw [if_neg (by omega), if_neg (by omega), if_neg (by omega), if_neg (by omega), if_neg (by omega), if_neg (by omega), if_neg (by omega), if_neg (by omega)]
/-- the draft taken over -/
theorem bc_fC (hs : sc I J) (hF : rF 21 J V) : sc (fC I V) (bcI J 1 21) := by
  obtain ⟨a1, a2, a3, a4, a5, a6, a7, a8⟩ := hF
  intro a b hz
  rw [bcI_i]
  by_cases h0 : 1 ≤ a ∧ a ≤ 20
  · unfold fC
    by_cases c1 : a = 1 ∧ (b = 1 ∨ b = 3 ∨ b = 5 ∨ b = 6 ∨ b = 7)
    · rw [if_pos c1]
      obtain ⟨c0, c2 | c2 | c2 | c2 | c2⟩ := c1
      · rw [if_pos ⟨c0, c2⟩, c2]; exact a1
      · rw [if_neg (by omega), if_pos ⟨c0, c2⟩, c2]; exact a2
      · rw [if_neg (by omega), if_neg (by omega), if_pos ⟨c0, c2⟩, c2]; exact a3
      · rw [if_neg (by omega), if_neg (by omega), if_neg (by omega), if_pos ⟨c0, c2⟩, c2]; exact a4
      · rw [if_neg (by omega), if_neg (by omega), if_neg (by omega), if_neg (by omega), if_pos ⟨c0, c2⟩, c2]; exact a5
    · rw [if_neg c1, if_neg (c := a = 1 ∧ b = 1) (by omega), if_neg (c := a = 1 ∧ b = 3) (by omega), if_neg (c := a = 1 ∧ b = 5) (by omega), if_neg (c := a = 1 ∧ b = 6) (by omega), if_neg (c := a = 1 ∧ b = 7) (by omega)]
      by_cases c2 : a = 4 ∧ b < 4
      · rw [if_pos (show a = 1 + 3 ∧ b < 4 by omega), if_pos c2]; exact a6 b c2.2
      · rw [if_neg (show ¬ (a = 1 + 3 ∧ b < 4) by omega), if_neg c2]
        by_cases c3 : 5 ≤ a ∧ a < 13 ∧ b < 6
        · rw [if_pos (show 1 + 4 ≤ a ∧ a < 1 + 12 ∧ b < 6 by omega), if_pos c3, show 21 + (a - 1) = 21 + 4 + (a - 5) by omega]
          exact a7 (a - 5) (by omega) b c3.2.2
        · rw [if_neg (show ¬ (1 + 4 ≤ a ∧ a < 1 + 12 ∧ b < 6) by omega), if_neg c3]
          by_cases c4 : 13 ≤ a ∧ a < 21 ∧ b < 2
          · rw [if_pos (show 1 + 12 ≤ a ∧ a < 1 + 20 ∧ b < 2 by omega), if_pos c4, show 21 + (a - 1) = 21 + 12 + (a - 13) by omega]
            exact a8 (a - 13) (by omega) b c4.2.2
          · rw [if_neg (show ¬ (1 + 12 ≤ a ∧ a < 1 + 20 ∧ b < 2) by omega), if_neg c4]
            exact hs a b hz
  · rw [fC_o I V h0, if_neg (by omega), if_neg (by omega), if_neg (by omega), if_neg (by omega)]
    exact hs a b hz
theorem sc_rI (h : sc I J) (w : Int32) : sc (rI I w) (rI J w) := by
  unfold rI
  split
  · exact h
  · rw [h 75 _ rfl]; exact h.uu
theorem bc_sc (hs : sc I J) (g : Nat) : sc I (bcI J 21 g) := hs.of fun k j q => by
  have := (scr_65 q).2.2
  exact bcI_o (by omega) j
/-- the reading of the text in shelf s -/
def y_fd (I : pI) (L : pL) (s : Nat) : (Nat × Nat) ⊕ (Nat × pI) := y_rd (y_tx L s (I 120 s).toNatClampNeg) (I 120 s).toNatClampNeg 160 1 0 (mm_u I 108 9 (-1))
theorem vN_9 (v : vN I N S) (x : Int32) : vN (mm_u I 108 9 x) N S := v.cg8 fun k j q => (by rw [mm_u_i, if_neg (by rintro ⟨rfl, rfl⟩; rcases q with q | q <;> omega)])
theorem rF_9 {g : Nat} (h : rF g J I) (x : Int32) : rF g J (mm_u I 108 9 x) := h.cg8 (fun _ _ _ _ => rfl) fun k j q => by rw [mm_u_i, if_neg (by rintro ⟨rfl, rfl⟩; rcases q with q | q <;> omega)]

set_option maxHeartbeats 400000 in
theorem cf_e (d : Nat) (hb : bR I N S) (hS : ∀ s, s < 8 → rSh I s) (hL : rL L) {s : Int32} (h : m_want I s = 0) {e k : Nat} (hR : y_fd I L s.toNatClampNeg = .inl (e, k)) : cP (d + 9) 75 [.ref 0, .int s] (mm_sh, mm_R, I, L) (pX (some (.int (-6))) L (sc (rI (mm_u I 0 13 (nI e)) (-6)))) := by
  have hs := sc.rf I
  obtain ⟨zqr1, zqr2, zqr3, zqr4, zqr5, zqr6⟩ := want_0 hS h
  have zqs4 := sh_s zqr1
  have hfi : rF 21 (bcI I 21 1) (mm_u I 108 9 (-1)) := rF_9 hb.2.bc _
  have hsi : sc I (bcI I 21 1) := bc_sc (sc.rf I) 1
  have htx := txC_s hS hL hsi h
  have v9 := vN_9 hb.1 (-1)
  have hrd := y_rd_q htx.2.2.2.2 160 1 0 (mm_u I 108 9 (-1)) N S (Nat.zero_le _) v9
  have hE := htx.2.1
  unfold y_fd at hR
  have he : e ≤ (I 120 s.toNatClampNeg).toNatClampNeg + 5 := by rw [hR] at hrd; exact hrd
  refine cP.of_gP (d := d + 8) me_75 ⟨Nat.le_of_ble_eq_true rfl, rfl⟩ ?_
  show gP mm_cs0 _ _ _ _ _ _ [some (.ref _), some (.int _), none, none] [] _ _
  refine gp_aload_n dX8_field_0 rfl ?_
  refine gp_iload_n dX8_field_1 rfl ?_
  refine gp_callX (kind := 1) (args := [.ref _, .int _]) (rest := _) dX8_field_2 (Or.inr (Or.inl ⟨rfl, rfl⟩)) mk_8_87 (by decide) me_107 rfl rfl rfl rfl rfl (mm_rc_of (by first | rfl | assumption | (simp only [*]; done))) (ct_why _ hb hS) ?_
  intro K1 zqk1
  rw [zqk1, h]
  refine gp_istore_n (ls' := [some (.ref _), some (.int _), some (.int _), none]) dX8_field_5 rfl (Nat.le_of_ble_eq_true rfl) ?_
  refine gp_iload_n dX8_field_6 rfl ?_
  refine gp_ifc (t := 16) dX8_field_7 (by decide) c1_eq (fun h1 => ?_) (fun h1 => ?_)
  · refine gp_aload_n dX8_field_16 rfl ?_
    refine gp_gr dX8_field_17 mf_8_16 rfl (by first | rfl | assumption | (simp only [*]; done)) (by first | rfl | assumption | (simp only [*]; done)) ?_
    refine gp_aload_n dX8_field_20 rfl ?_
    refine gp_gr dX8_field_21 mf_8_10 rfl (by first | rfl | assumption | (simp only [*]; done)) (by first | rfl | assumption | (simp only [*]; done)) ?_
    refine gp_callX (kind := 1) (args := [.ref _, .ref _]) (rest := _) dX8_field_24 (Or.inr (Or.inl ⟨rfl, rfl⟩)) mk_8_241 (by decide) me_9 rfl rfl rfl rfl rfl (mm_rc_of (by first | rfl | assumption | (simp only [*]; done))) (ct_become _ isF_21 isF_1 (by decide) (i_z2 hb)) ?_
    intro K2 zqk2
    rw [zqk2]
    refine gp_aload_n dX8_field_27 rfl ?_
    refine gp_gr dX8_field_28 mf_8_42 rfl (by first | rfl | assumption | (simp only [*]; done)) (by first | rfl | assumption | (simp only [*]; done)) ?_
    refine gp_aload_n dX8_field_31 rfl ?_
    refine gp_gr dX8_field_32 mf_8_24 rfl (by first | rfl | assumption | (simp only [*]; done)) (by first | rfl | assumption | (simp only [*]; done)) ?_
    refine gp_iload_n dX8_field_35 rfl ?_
    refine gp_aal dX8_field_36 rfl (by decide) zqs4.1 zqs4.2.1 ?_
    refine gp_aload_n dX8_field_37 rfl ?_
    refine gp_gr dX8_field_38 mf_8_16 rfl (by first | rfl | assumption | (simp only [*]; done)) (by first | rfl | assumption | (simp only [*]; done)) ?_
    refine gp_callX (kind := 1) (args := [.ref _, .ref _, .ref _]) (rest := _) dX8_field_41 (Or.inr (Or.inl ⟨rfl, rfl⟩)) mk_8_244 (by decide) me_35 rfl rfl rfl rfl rfl (mm_rc_of (by first | rfl | assumption | (simp only [*]; done))) (ct_read _ (by omega) v9 hsi htx hfi) ?_
    intro K3 zqk3
    have zqa : sc I K3 ∧ K3 65 2 = nI e := by unfold rdX at zqk3; rw [hR] at zqk3; exact zqk3
    refine gp_istore_n (ls' := [some (.ref _), some (.int _), some (.int _), some (.int _)]) dX8_field_44 rfl (Nat.le_of_ble_eq_true rfl) ?_
    refine gp_aload_n dX8_field_45 rfl ?_
    refine gp_aload_n dX8_field_46 rfl ?_
    refine gp_gr dX8_field_47 mf_8_42 rfl rfl (by first | rfl | assumption | (simp only [*]; done)) ?_
    refine gp_giv dX8_field_50 mf_8_248 (by decide) (by first | rfl | assumption | (simp only [*]; done)) (by first | exact zqa.2 | exact mm_u_s _ _ _ _ | exact rfl) ?_
    refine gp_pi dX8_field_53 mf_8_70 rfl rfl (by first | rfl | assumption | (simp only [*]; done)) ?_
    refine gp_aload_n dX8_field_56 rfl ?_
    refine gp_giv dX8_field_57 mf_8_70 (by decide) (by first | rfl | assumption | (simp only [*]; done)) (by first | exact zqa.2 | exact mm_u_s _ _ _ _ | exact rfl) ?_
    refine gp_pu (st' := .int (-1) :: _) dX8_field_60 rfl ?_
    refine gp_icc (t := 71) dX8_field_61 (by decide) c2_eq (fun h2 => ?_) (fun h2 => ?_)
    · exact absurd h2 (nI_n1 (by omega))
    · refine gp_aload_n dX8_field_64 rfl ?_
      refine gp_pu (st' := .int (-6) :: _) dX8_field_65 rfl ?_
      refine gp_call (kind := 1) (args := [.ref _, .int _]) (rest := _) dX8_field_67 (Or.inr (Or.inl ⟨rfl, rfl⟩)) mk_8_79 (by decide) me_100 rfl rfl rfl rfl rfl (mm_rc_of (by first | rfl | assumption | (simp only [*]; done))) (ok_X8_refuse _ _ _ _) rfl ?_
      refine gp_iret dX8_field_70 rfl ?_
      (refine pX.mk rfl ?_; rw [x_ref_w _ (by unfold isW; decide)]; exact sc_rI zqa.1.uu (-6))
  · exact absurd (Eq.refl _) h1

set_option maxHeartbeats 400000 in
theorem cf_k (d : Nat) (hb : bR I N S) (hS : ∀ s, s < 8 → rSh I s) (hL : rL L) {s : Int32} (h : m_want I s = 0) {k : Nat} {V1 : pI} (hR : y_fd I L s.toNatClampNeg = .inr (k, V1)) (h5 : V1 108 6 = 0 ∨ V1 108 6 = 1) : cP (d + 9) 75 [.ref 0, .int s] (mm_sh, mm_R, I, L) (pX (some (.int (nI k))) L (sc (mm_u (fC I V1) 0 13 (-1)))) := by
  have hs := sc.rf I
  obtain ⟨zqr1, zqr2, zqr3, zqr4, zqr5, zqr6⟩ := want_0 hS h
  have zqs4 := sh_s zqr1
  have hfi : rF 21 (bcI I 21 1) (mm_u I 108 9 (-1)) := rF_9 hb.2.bc _
  have hsi : sc I (bcI I 21 1) := bc_sc (sc.rf I) 1
  have htx := txC_s hS hL hsi h
  have v9 := vN_9 hb.1 (-1)
  have hrd := y_rd_q htx.2.2.2.2 160 1 0 (mm_u I 108 9 (-1)) N S (Nat.zero_le _) v9
  have hE := htx.2.1
  unfold y_fd at hR
  refine cP.of_gP (d := d + 8) me_75 ⟨Nat.le_of_ble_eq_true rfl, rfl⟩ ?_
  show gP mm_cs0 _ _ _ _ _ _ [some (.ref _), some (.int _), none, none] [] _ _
  refine gp_aload_n dX8_field_0 rfl ?_
  refine gp_iload_n dX8_field_1 rfl ?_
  refine gp_callX (kind := 1) (args := [.ref _, .int _]) (rest := _) dX8_field_2 (Or.inr (Or.inl ⟨rfl, rfl⟩)) mk_8_87 (by decide) me_107 rfl rfl rfl rfl rfl (mm_rc_of (by first | rfl | assumption | (simp only [*]; done))) (ct_why _ hb hS) ?_
  intro K1 zqk1
  rw [zqk1, h]
  refine gp_istore_n (ls' := [some (.ref _), some (.int _), some (.int _), none]) dX8_field_5 rfl (Nat.le_of_ble_eq_true rfl) ?_
  refine gp_iload_n dX8_field_6 rfl ?_
  refine gp_ifc (t := 16) dX8_field_7 (by decide) c1_eq (fun h1 => ?_) (fun h1 => ?_)
  · refine gp_aload_n dX8_field_16 rfl ?_
    refine gp_gr dX8_field_17 mf_8_16 rfl (by first | rfl | assumption | (simp only [*]; done)) (by first | rfl | assumption | (simp only [*]; done)) ?_
    refine gp_aload_n dX8_field_20 rfl ?_
    refine gp_gr dX8_field_21 mf_8_10 rfl (by first | rfl | assumption | (simp only [*]; done)) (by first | rfl | assumption | (simp only [*]; done)) ?_
    refine gp_callX (kind := 1) (args := [.ref _, .ref _]) (rest := _) dX8_field_24 (Or.inr (Or.inl ⟨rfl, rfl⟩)) mk_8_241 (by decide) me_9 rfl rfl rfl rfl rfl (mm_rc_of (by first | rfl | assumption | (simp only [*]; done))) (ct_become _ isF_21 isF_1 (by decide) (i_z2 hb)) ?_
    intro K2 zqk2
    rw [zqk2]
    refine gp_aload_n dX8_field_27 rfl ?_
    refine gp_gr dX8_field_28 mf_8_42 rfl (by first | rfl | assumption | (simp only [*]; done)) (by first | rfl | assumption | (simp only [*]; done)) ?_
    refine gp_aload_n dX8_field_31 rfl ?_
    refine gp_gr dX8_field_32 mf_8_24 rfl (by first | rfl | assumption | (simp only [*]; done)) (by first | rfl | assumption | (simp only [*]; done)) ?_
    refine gp_iload_n dX8_field_35 rfl ?_
    refine gp_aal dX8_field_36 rfl (by decide) zqs4.1 zqs4.2.1 ?_
    refine gp_aload_n dX8_field_37 rfl ?_
    refine gp_gr dX8_field_38 mf_8_16 rfl (by first | rfl | assumption | (simp only [*]; done)) (by first | rfl | assumption | (simp only [*]; done)) ?_
    refine gp_callX (kind := 1) (args := [.ref _, .ref _, .ref _]) (rest := _) dX8_field_41 (Or.inr (Or.inl ⟨rfl, rfl⟩)) mk_8_244 (by decide) me_35 rfl rfl rfl rfl rfl (mm_rc_of (by first | rfl | assumption | (simp only [*]; done))) (ct_read _ (by omega) v9 hsi htx hfi) ?_
    intro K3 zqk3
    have zqa : sc I K3 ∧ K3 65 2 = -1 ∧ rF 21 K3 V1 := by unfold rdX at zqk3; rw [hR] at zqk3; exact zqk3
    have zqF : rF 21 (mm_u K3 0 13 (-1)) V1 := zqa.2.2.cg (fun k b1 b2 j => mm_u_o _ _ _ _ (by omega)) (fun _ _ _ => rfl)
    have zq5 : mm_u K3 0 13 (-1) 21 5 = 0 ∨ mm_u K3 0 13 (-1) 21 5 = 1 := by rw [zqF.2.2.1]; exact h5
    refine gp_istore_n (ls' := [some (.ref _), some (.int _), some (.int _), some (.int _)]) dX8_field_44 rfl (Nat.le_of_ble_eq_true rfl) ?_
    refine gp_aload_n dX8_field_45 rfl ?_
    refine gp_aload_n dX8_field_46 rfl ?_
    refine gp_gr dX8_field_47 mf_8_42 rfl rfl (by first | rfl | assumption | (simp only [*]; done)) ?_
    refine gp_giv dX8_field_50 mf_8_248 (by decide) (by first | rfl | assumption | (simp only [*]; done)) (by first | exact zqa.2.1 | exact mm_u_s _ _ _ _ | exact rfl) ?_
    refine gp_pi dX8_field_53 mf_8_70 rfl rfl (by first | rfl | assumption | (simp only [*]; done)) ?_
    refine gp_aload_n dX8_field_56 rfl ?_
    refine gp_giv dX8_field_57 mf_8_70 (by decide) (by first | rfl | assumption | (simp only [*]; done)) (by first | exact zqa.2.1 | exact mm_u_s _ _ _ _ | exact rfl) ?_
    refine gp_pu (st' := .int (-1) :: _) dX8_field_60 rfl ?_
    refine gp_icc (t := 71) dX8_field_61 (by decide) c2_eq (fun h2 => ?_) (fun h2 => ?_)
    · refine gp_aload_n dX8_field_71 rfl ?_
      refine gp_gr dX8_field_72 mf_8_10 rfl (by first | rfl | assumption | (simp only [*]; done)) (by first | rfl | assumption | (simp only [*]; done)) ?_
      refine gp_aload_n dX8_field_75 rfl ?_
      refine gp_gr dX8_field_76 mf_8_16 rfl (by first | rfl | assumption | (simp only [*]; done)) (by first | rfl | assumption | (simp only [*]; done)) ?_
      refine gp_callX (kind := 1) (args := [.ref _, .ref _]) (rest := _) dX8_field_79 (Or.inr (Or.inl ⟨rfl, rfl⟩)) mk_8_241 (by decide) me_9 rfl rfl rfl rfl rfl (mm_rc_of (by first | rfl | assumption | (simp only [*]; done))) (ct_become _ isF_1 isF_21 (by decide) zq5) ?_
      intro K4 zqk4
      rw [zqk4]
      refine gp_iload_n dX8_field_82 rfl ?_
      refine gp_iret dX8_field_83 rfl ?_
      (refine pX.mk (by rw [hR]; rfl) ?_
       have e1 : sc (mm_u I 0 13 (-1)) (mm_u K3 0 13 (-1)) := zqa.1.uu
       have e2 := bc_fC e1 zqF
       refine sc.tr ?_ e2
       intro a b _
       by_cases y : 1 ≤ a ∧ a ≤ 20
       · unfold fC; rw [mm_u_o _ _ _ _ (by omega), mm_u_o _ _ _ _ (by omega)]
       · rw [fC_o _ _ y, mm_u_i, mm_u_i, fC_o _ _ y])
    · exact absurd rfl h2
  · exact absurd (Eq.refl _) h1
end P98ve
