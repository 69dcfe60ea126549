/-! PUBLIC METHODS: field, closed -/
section P98we
variable {I C J K V : pI} {L : pL} {N S : Nat} {t : Nat → Int32} {z E w : Nat} {f : Nat → Int32} {T : Nat → Int32}

theorem mR.o127 (h : mR V C K) (e : ∀ k, k ≠ 127 → ∀ j, J k j = K k j) : mR V C J := by
  refine ⟨fun k j y => ?_, fun k hk => ?_⟩
  · have : k ≠ 127 := fun q => by subst q; exact absurd y (show ¬ ((Nat.ble 108 127 && !true) = true) by decide)
    rw [e k this j]; exact h.1 k j y
  · rw [← h.2 k hk]; funext j; exact e k (by omega) j
/-- what was is again -/
theorem mR_back (h1 : mR I C J) {V0 V1 : pI} (hV : ∀ k j, fK8 k j → V0 k j = I k j) (hV1 : ∀ k j, ¬ fK8 k j → V1 k j = V0 k j) (h : mR V1 C K) (hT : K 127 = alA9 127 J 127) : mR V0 C (alB9 127 K) := by
  obtain ⟨b1, b2⟩ := alB9_x 127 (by omega) K
  obtain ⟨a1, a2⟩ := alA9_x 127 (by omega) J
  have e : ∀ k j, fK8 k j → kV 127 K k j = J k j := fun k j hk => by
    rw [← a2 k j hk]
    unfold kV
    rw [hT]
  refine ⟨fun k j y => ?_, fun k hk => ?_⟩
  · by_cases q : fK8 k j
    · rw [b1 k j q, e k j q, hV k j q]; exact h1.1 k j y
    · rw [b2 k j q, ← hV1 k j q]; exact h.1 k j y
  · rw [← h.2 k hk]
    funext j
    exact b2 k j (by rintro (y | y) <;> omega)

set_option maxHeartbeats 400000 in
theorem dn_mfe (d : Nat) {s a x : Int32} {k : Nat} (hx : alB9 127 K 108 32 = x) {Q : Option Value → mm_M → Prop} (hq : Q (some (.int (-6))) (mm_sh, mm_R, x_inc (mm_u (alB9 127 K) 108 9 x) 109 (-(-6)), L)) : gP mm_cs0 (d + 3) 9 false (some .int) cX9_field 133 [some (.ref 108), some (.int s), some (.int a), some (.int (nI k)), some (.int 0)] [] (mm_sh, mm_R, K, L) Q := by
  refine gp_iload dX9_field_133 rfl ?_
  refine gp_ifc (t := 140) dX9_field_135 (by decide) c1_eq (fun h1 => ?_) (fun h1 => ?_)
  · refine gp_aload_n dX9_field_140 rfl ?_
    refine gp_aload_n dX9_field_141 rfl ?_
    refine gp_gr dX9_field_142 mf_9_84 rfl (by first | rfl | assumption | (simp only [*]; done)) (by first | rfl | assumption | (simp only [*]; done)) ?_
    refine gp_pu (st' := .int (1) :: _) dX9_field_145 rfl ?_
    refine gp_callX (kind := 1) (args := [.ref _, .ref _, .int _]) (rest := _) dX9_field_146 (Or.inr (Or.inl ⟨rfl, rfl⟩)) mk_9_217 (by decide) me_163 rfl rfl rfl rfl rfl (mm_rc_of (by first | rfl | assumption | (simp only [*]; done))) (all_1 _ _ (by decide) rfl) ?_
    intro K1 zqk1
    rw [zqk1]
    refine gp_aload_n dX9_field_149 rfl ?_
    refine gp_aload_n dX9_field_150 rfl ?_
    refine gp_giv dX9_field_151 mf_9_173 (by decide) (by first | rfl | assumption | (simp only [*]; done)) (by first | exact hx | exact rfl) ?_
    refine gp_pi dX9_field_154 mf_9_25 rfl rfl (by first | rfl | assumption | (simp only [*]; done)) ?_
    refine gp_aload_n dX9_field_157 rfl ?_
    refine gp_pu (st' := .int (-6) :: _) dX9_field_158 rfl ?_
    refine gp_call (kind := 1) (args := [.ref _, .int _]) (rest := _) dX9_field_160 (Or.inr (Or.inl ⟨rfl, rfl⟩)) mk_9_127 (by decide) me_127 rfl rfl rfl rfl rfl (mm_rc_of (by first | rfl | assumption | (simp only [*]; done))) (ok_X9_no _ _ _ _ (by decide)) rfl ?_
    refine gp_iret dX9_field_163 rfl ?_
    exact hq
  · exact absurd rfl h1

set_option maxHeartbeats 400000 in
theorem dn_mfk (d : Nat) {s a : Int32} {k : Nat} {Q : Option Value → mm_M → Prop} (hq : Q (some (.int (nI k))) (mm_sh, mm_R, K, L)) : gP mm_cs0 (d + 3) 9 false (some .int) cX9_field 133 [some (.ref 108), some (.int s), some (.int a), some (.int (nI k)), some (.int 1)] [] (mm_sh, mm_R, K, L) Q := by
  refine gp_iload dX9_field_133 rfl ?_
  refine gp_ifc (t := 140) dX9_field_135 (by decide) c1_eq (fun h1 => ?_) (fun h1 => ?_)
  · exact absurd h1 (by decide)
  · refine gp_iload_n dX9_field_138 rfl ?_
    refine gp_iret dX9_field_139 rfl ?_
    exact hq

theorem txM_s (hS : ∀ s, s < 8 → rSh I s) {s : Int32} (h : m_want I s = 0) : txM s.toNatClampNeg (y_tx L s.toNatClampNeg (I 120 s.toNatClampNeg).toNatClampNeg) (I 120 s.toNatClampNeg).toNatClampNeg L := by
  obtain ⟨r1, r2, r3, r4, r5, r6⟩ := want_0 hS h
  exact ⟨(sh_s r1).2.2.2.2, wi_cl r6, fun p hp => (if_pos hp).symm, fun p hp => if_neg (by omega)⟩
/-- what field leaves of the reference -/
def mfX (I C : pI) (R : (Nat × Nat) ⊕ (Nat × pI)) (v : Int32) (K : pI) : Prop := (∀ e k, R = .inl (e, k) → v = -6 ∧ mR (rM (mm_u I 108 9 (nI e)) (-6)) C K) ∧ ∀ k V1, R = .inr (k, V1) → v = nI k ∧ mR V1 C K
def mfQ (I C : pI) (L : pL) (R : (Nat × Nat) ⊕ (Nat × pI)) : Option Value → mm_M → Prop := fun r M => ∃ v K, r = some (.int v) ∧ M = (mm_sh, mm_R, K, L) ∧ mfX I C R v K
theorem mfQ_e {R : (Nat × Nat) ⊕ (Nat × pI)} {e k : Nat} (h : R = .inl (e, k)) (hK : mR (rM (mm_u I 108 9 (nI e)) (-6)) C K) : mfQ I C L R (some (.int (-6))) (mm_sh, mm_R, K, L) := by
  refine ⟨_, _, rfl, rfl, fun e1 k1 h1 => ?_, fun k1 V1 h1 => ?_⟩
  · rw [h] at h1
    have : e = e1 := congrArg (fun q => q.1) (Sum.inl.inj h1)
    rw [← this]
    exact ⟨rfl, hK⟩
  · rw [h] at h1; cases h1
theorem mfQ_k {R : (Nat × Nat) ⊕ (Nat × pI)} {k : Nat} {V1 : pI} (h : R = .inr (k, V1)) (hK : mR V1 C K) : mfQ I C L R (some (.int (nI k))) (mm_sh, mm_R, K, L) := by
  refine ⟨_, _, rfl, rfl, fun e1 k1 h1 => ?_, fun k1 V2 h1 => ?_⟩
  · rw [h] at h1; cases h1
  · rw [h] at h1
    have e1 : k = k1 := congrArg (fun q => q.1) (Sum.inr.inj h1)
    have e2 : V1 = V2 := congrArg (fun q => q.2) (Sum.inr.inj h1)
    rw [← e1, ← e2]
    exact ⟨rfl, hK⟩

set_option maxHeartbeats 1000000 in
theorem ml_field (d : Nat) (v : vN I N S) (hs : mR I C J) (hS : ∀ s, s < 8 → rSh I s) (hW : rW I) {s : Int32} (h : m_want I s = 0) (htx : txM s.toNatClampNeg t E L) (hEe : I 120 s.toNatClampNeg = nI E) : cP (d + 4) 164 [.ref 108, .int s] (mm_sh, mm_R, J, L) (mfQ I C L (y_rd t E 160 1 0 (mm_u I 108 9 (-1)))) := by
  obtain ⟨zqr1, zqr2, zqr3, zqr4, zqr5, zqr6⟩ := want_0 hS h
  have zqs1 := (sh_s zqr1).1
  have v9 := vN_9 v (-1)
  have hw9 : wnV (mm_u I 108 9 (-1)) := ⟨fun j hj => by rw [mm_u_o _ _ _ _ (by decide)]; exact hW.1 j hj, fun j hj => by rw [mm_u_o _ _ _ _ (by decide)]; exact hW.2 j hj⟩
  refine cP.of_gP (d := d + 3) me_164 ⟨Nat.le_of_ble_eq_true rfl, rfl⟩ ?_
  show gP mm_cs0 _ _ _ _ _ _ [some (.ref _), some (.int _), none, none, none] [] _ _
  refine gp_aload_n dX9_field_0 rfl ?_
  refine gp_iload_n dX9_field_1 rfl ?_
  refine gp_callX (kind := 1) (args := [.ref _, .int _]) (rest := _) dX9_field_2 (Or.inr (Or.inl ⟨rfl, rfl⟩)) mk_9_214 (by decide) me_140 rfl rfl rfl rfl rfl (mm_rc_of (by first | rfl | assumption | (simp only [*]; done))) (ml_wanted _ v hs) ?_
  intro K1 zqk1
  rw [h]
  refine gp_istore_n (ls' := [some (.ref _), some (.int _), some (.int _), none, none]) dX9_field_5 rfl (Nat.le_of_ble_eq_true rfl) ?_
  refine gp_iload_n dX9_field_6 rfl ?_
  refine gp_ifc (t := 16) dX9_field_7 (by decide) c1_eq (fun h1 => ?_) (fun h1 => ?_)
  · refine gp_aload_n dX9_field_16 rfl ?_
    refine gp_aload_n dX9_field_17 rfl ?_
    refine gp_gr dX9_field_18 mf_9_84 rfl (by first | rfl | assumption | (simp only [*]; done)) (by first | rfl | assumption | (simp only [*]; done)) ?_
    refine gp_pu (st' := .int (0) :: _) dX9_field_21 rfl ?_
    refine gp_callX (kind := 1) (args := [.ref _, .ref _, .int _]) (rest := _) dX9_field_22 (Or.inr (Or.inl ⟨rfl, rfl⟩)) mk_9_217 (by decide) me_163 rfl rfl rfl rfl rfl (mm_rc_of (by first | rfl | assumption | (simp only [*]; done))) (all_0 _ _ (by decide) rfl) ?_
    intro K2 zqk2
    rw [zqk2]
    have zqa : mR I C (alA9 127 K1) := zqk1.o127 (alA9_x 127 (by omega) K1).1
    have zqe : mm_u (mm_u (alA9 127 K1) 108 28 (160 * s)) 108 29 0 120 s.toNatClampNeg = nI E := by rw [mm_u_o _ _ _ _ (by decide), mm_u_o _ _ _ _ (by decide), zqa.g (by decide) (by decide) (by decide), hEe]
    refine gp_aload_n dX9_field_25 rfl ?_
    refine gp_pu (st' := .int (160) :: _) dX9_field_26 rfl ?_
    refine gp_iload_n dX9_field_29 rfl ?_
    refine gp_pu (st' := .int _ :: _) dX9_field_30 rfl ?_
    refine gp_pi dX9_field_31 mf_9_182 rfl rfl (by first | rfl | assumption | (simp only [*]; done)) ?_
    refine gp_aload_n dX9_field_34 rfl ?_
    refine gp_pu (st' := .int (0) :: _) dX9_field_35 rfl ?_
    refine gp_pi dX9_field_36 mf_9_176 rfl rfl (by first | rfl | assumption | (simp only [*]; done)) ?_
    refine gp_aload_n dX9_field_39 rfl ?_
    refine gp_aload_n dX9_field_40 rfl ?_
    refine gp_gr dX9_field_41 mf_9_62 rfl (by first | rfl | assumption | (simp only [*]; done)) (by first | rfl | assumption | (simp only [*]; done)) ?_
    refine gp_iload_n dX9_field_44 rfl ?_
    refine gp_ialv dX9_field_45 rfl (by first | rfl | assumption | (simp only [*]; done)) zqs1 (by first | exact zqe | exact rfl) ?_
    refine gp_pi dX9_field_46 mf_9_179 rfl rfl (by first | rfl | assumption | (simp only [*]; done)) ?_
    refine gp_aload_n dX9_field_49 rfl ?_
    refine gp_pu (st' := .int (-1) :: _) dX9_field_50 rfl ?_
    refine gp_pi dX9_field_51 mf_9_25 rfl rfl (by first | rfl | assumption | (simp only [*]; done)) ?_
    refine gp_pu (st' := .int (1) :: _) dX9_field_54 rfl ?_
    refine gp_istore_n (ls' := [some (.ref _), some (.int _), some (.int _), some (.int _), none]) dX9_field_55 rfl (Nat.le_of_ble_eq_true rfl) ?_
    have zqm0 : mR (mm_u I 108 9 (-1)) C (mm_u (mm_u (mm_u (mm_u (alA9 127 K1) 108 28 (160 * s)) 108 29 0) 108 30 (nI E)) 108 9 (-1)) := (((zqa.u (by decide) rfl).u (by decide) rfl).u (by decide) rfl).uu (by decide)
    have zqmm : mst s.toNatClampNeg E 0 (mm_u (mm_u (mm_u (mm_u (alA9 127 K1) 108 28 (160 * s)) 108 29 0) 108 30 (nI E)) 108 9 (-1)) := by
      refine ⟨?_, ?_, ?_⟩
      · rw [mm_u_j _ _ (by decide), mm_u_j _ _ (by decide), mm_u_j _ _ (by decide), mm_u_s, ← nI_mul, nI_cl zqr1.1]; rfl
      · rw [mm_u_j _ _ (by decide), mm_u_j _ _ (by decide), mm_u_s]; rfl
      · rw [mm_u_j _ _ (by decide), mm_u_s]
    refine gp_aload_n dX9_field_56 rfl ?_
    refine gp_callX (kind := 1) (args := [.ref _]) (rest := _) dX9_field_57 (Or.inr (Or.inl ⟨rfl, rfl⟩)) mk_9_221 (by decide) me_161 rfl rfl rfl rfl rfl (mm_rc_of (by first | rfl | assumption | (simp only [*]; done))) (mt_item d htx v9 hw9 zqm0 zqmm (Nat.zero_le _) rfl) ?_
    intro K3 zqk3
    refine gp_istore (ls' := [some (.ref _), some (.int _), some (.int _), some (.int _), some (.int _)]) dX9_field_60 rfl (Nat.le_of_ble_eq_true rfl) ?_
    (unfold itX at zqk3
     have zqT : mm_u (mm_u (mm_u (mm_u (alA9 127 K1) 108 28 (160 * s)) 108 29 0) 108 30 (nI E)) 108 9 (-1) 127 = alA9 127 K1 127 := by rw [mm_u_k _ _ _ (by decide), mm_u_k _ _ _ (by decide), mm_u_k _ _ _ (by decide), mm_u_k _ _ _ (by decide)]
     rw [zqT] at zqk3
     have zqV : ∀ k j, fK8 k j → mm_u I 108 9 (-1) k j = I k j := fun k j q => by rw [mm_u_i, if_neg (by rintro ⟨rfl, rfl⟩; rcases q with q | q <;> omega)]
     have zqE : ∀ (e k : Nat) (K4 V1 : pI), y_rd t E 160 1 0 (mm_u I 108 9 (-1)) = .inl (e, k) → (∀ k j, ¬ fK8 k j → V1 k j = mm_u I 108 9 (-1) k j) → mR V1 C K4 → K4 127 = alA9 127 K1 127 → K4 108 32 = nI e → gP mm_cs0 (d + 3) 9 false (some .int) cX9_field 133 [some (.ref 108), some (.int s), some (.int 0), some (.int (nI k)), some (.int 0)] [] (mm_sh, mm_R, K4, L) (mfQ I C L (y_rd t E 160 1 0 (mm_u I 108 9 (-1)))) := fun e k K4 V1 a1 a2 a3 a4 a5 => by
      have hb := mR_back zqk1 zqV a2 a3 a4
      have hx : alB9 127 K4 108 32 = nI e := ((alB9_x 127 (by omega) K4).2 108 32 (by rintro (y | y) <;> omega)).trans a5
      refine dn_mfe d hx (mfQ_e a1 ?_)
      have h9 := hb.uu (k := 108) (j := 9) (v := nI e) (by decide)
      rw [mm_u_uu] at h9
      exact h9.no (by unfold isW; decide)
     have hq0 := y_im_q htx.2.2.2 v9 (Nat.zero_le E)
     cases hI : y_im t (mm_u I 108 9 (-1)) 0 with
     | inl e =>
      rw [hI] at zqk3
      obtain ⟨a1, a2, a3⟩ := zqk3
      exact dn_mf62 d (zqE e 1 K3 _ (y_rd_e hI) (fun _ _ _ => rfl) a1 a2 a3)
     | inr r =>
      obtain ⟨q1, V1⟩ := r
      rw [hI] at zqk3 hq0
      obtain ⟨a1, a2, a3⟩ := zqk3
      obtain ⟨b1, b2, ⟨N1, S1, b3⟩, b4, b5⟩ := hq0
      have hwn1 : wnV V1 := ⟨fun j hj => (b4 124 j (by rintro (y | y) <;> omega)).trans (hw9.1 j hj), fun j hj => (b4 125 j (by rintro (y | y) <;> omega)).trans (hw9.2 j hj)⟩
      have hE := htx.2.1
      exact lp_mf d htx (R := y_rd t E 160 1 0 (mm_u I 108 9 (-1))) 159 1 q1 V1 K3 N1 S1 (by omega) b2 b3 hwn1 a1 a3 a2 (y_rd_rt hI).symm (fun e k K4 V2 c1 c2 c3 c4 c5 => zqE e k K4 V2 c1 (fun k j hk => (c2 k j hk).trans (b4 k j hk)) c3 c4 c5) (fun k V2 K4 c1 c2 => dn_mfk d (mfQ_k c1 c2)))
  · exact absurd (Eq.refl _) h1
end P98we
