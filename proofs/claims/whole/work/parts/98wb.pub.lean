/-! PUBLIC METHODS: field: the reference reads items -/
section P98wb
variable {I C J K V : pI} {L : pL} {N S : Nat} {t : Nat → Int32} {z E w : Nat} {f : Nat → Int32} {T : Nat → Int32}

theorem mR.o108 (h : mR V C J) (e : ∀ k, k ≠ 108 → K k = J k) (e2 : ∀ j, j < 10 ∨ j = 57 ∨ j = 58 → K 108 j = J 108 j) : mR V C K := by
  refine ⟨fun k j y => ?_, fun k hk => ?_⟩
  · by_cases q : k = 108
    · subst q
      have hz : scr 108 j = false := by
        rw [Bool.and_eq_true] at y
        have := y.2
        cases q : scr 108 j with
        | false => rfl
        | true => rw [q] at this; cases this
      rw [e2 j (scr108 hz)]
      exact h.1 108 j y
    · rw [e k q]; exact h.1 k j y
  · rw [e k (by omega)]; exact h.2 k hk
/-- the same effect on both -/
theorem mR_ef (hs : mR V C K) (v : vN V N S) (hw : w < 8) : mR (y_ef V w f) C (y_ef K w f) := by
  have k0 : K 108 0 = nI N := (hs.r (by decide)).trans v.2.2.1
  have k1 : K 108 1 = nI S := (hs.r (by decide)).trans v.2.2.2.1
  by_cases w0 : w = 0
  · subst w0
    rw [y_ef_0 v.2.2.1 v.2.2.2.1 v.1 v.2.1, y_ef_0 k0 k1 v.1 v.2.1]
    unfold v_ch
    exact (((((((hs.uu (by decide)).uu (by decide)).uu (by decide)).uu (by decide)).uu (by decide)).uu (by decide)).uu (by decide))
  · by_cases w1 : w = 1
    · subst w1
      rw [y_ef_1 v.2.2.2.1 v.2.1, y_ef_1 k1 v.2.1]
      unfold v_sk
      exact (((hs.uu (by decide)).uu (by decide)).uu (by decide))
    · by_cases w2 : w = 2
      · subst w2; exact hs.uu (k := 113) (by decide) |> fun q => by rw [y_ef_2, y_ef_2]; exact q
      · by_cases w3 : w = 3
        · subst w3; exact hs.uu (k := 114) (by decide) |> fun q => by rw [y_ef_3, y_ef_3]; exact q
        · rw [y_ef_t (by omega), y_ef_t (by omega)]; exact hs.uu (by decide)

set_option maxHeartbeats 400000 in
theorem mx_addsSack (d : Nat) (m1 : J 108 1 = nI S) (hS : S < 8) {l h : Int32} : cP (d + 1) 143 [.ref 108, .int l, .int h] (mm_sh, mm_R, J, L) (pX (some (.int (nI S))) L (fun K => K = v_sk J S l h)) := by
  have zqi : mm_in (nI S) 8 = true := mm_in_8.mpr ⟨nI_pos' (by omega), nI_lt (b := 8) hS (by omega)⟩
  refine cP.of_gP (d := d + 0) me_143 ⟨Nat.le_of_ble_eq_true rfl, rfl⟩ ?_
  show gP mm_cs0 _ _ _ _ _ _ [some (.ref _), some (.int _), some (.int _)] [] _ _
  refine gp_aload_n dX9_addsSack_0 rfl ?_
  refine gp_gr dX9_addsSack_1 mf_9_50 rfl (by first | rfl | assumption | (simp only [*]; done)) (by first | rfl | assumption | (simp only [*]; done)) ?_
  refine gp_aload_n dX9_addsSack_4 rfl ?_
  refine gp_giv dX9_addsSack_5 mf_9_120 (by decide) (by first | rfl | assumption | (simp only [*]; done)) (by first | exact m1 | exact (mm_u_o _ _ _ _ (by decide)).trans m1 | exact ((mm_u_o _ _ _ _ (by decide)).trans (mm_u_o _ _ _ _ (by decide))).trans m1 | exact rfl) ?_
  refine gp_iload_n dX9_addsSack_8 rfl ?_
  refine gp_ias dX9_addsSack_9 (by first | rfl | assumption | (simp only [*]; done)) (by first | rfl | assumption | (simp only [*]; done)) ?_
  refine gp_aload_n dX9_addsSack_10 rfl ?_
  refine gp_gr dX9_addsSack_11 mf_9_53 rfl (by first | rfl | assumption | (simp only [*]; done)) (by first | rfl | assumption | (simp only [*]; done)) ?_
  refine gp_aload_n dX9_addsSack_14 rfl ?_
  refine gp_giv dX9_addsSack_15 mf_9_120 (by decide) (by first | rfl | assumption | (simp only [*]; done)) (by first | exact m1 | exact (mm_u_o _ _ _ _ (by decide)).trans m1 | exact ((mm_u_o _ _ _ _ (by decide)).trans (mm_u_o _ _ _ _ (by decide))).trans m1 | exact rfl) ?_
  refine gp_iload_n dX9_addsSack_18 rfl ?_
  refine gp_ias dX9_addsSack_19 (by first | rfl | assumption | (simp only [*]; done)) (by first | rfl | assumption | (simp only [*]; done)) ?_
  refine gp_aload_n dX9_addsSack_20 rfl ?_
  refine gp_pu dX9_addsSack_21 rfl ?_
  refine gp_giv dX9_addsSack_22 mf_9_120 (by decide) (by first | rfl | assumption | (simp only [*]; done)) (by first | exact m1 | exact (mm_u_o _ _ _ _ (by decide)).trans m1 | exact ((mm_u_o _ _ _ _ (by decide)).trans (mm_u_o _ _ _ _ (by decide))).trans m1 | exact rfl) ?_
  refine gp_pu dX9_addsSack_25 rfl ?_
  refine gp_pu (st' := .int (1) :: _) dX9_addsSack_26 rfl ?_
  refine gp_pu (st' := .int _ :: _) dX9_addsSack_27 rfl ?_
  refine gp_pi dX9_addsSack_28 mf_9_120 rfl rfl (by first | rfl | assumption | (simp only [*]; done)) ?_
  refine gp_iret dX9_addsSack_31 rfl ?_
  exact pX.mk rfl (by unfold v_sk; rw [nI_clamp (by omega)])

set_option maxHeartbeats 400000 in
theorem mx_addsChild (d : Nat) (m0 : J 108 0 = nI N) (m1 : J 108 1 = nI S) (hN : N < 8) (hS : S ≤ 8) {k a l : Int32} : cP (d + 1) 142 [.ref 108, .int k, .int a, .int l] (mm_sh, mm_R, J, L) (pX (some (.int (nI N))) L (fun K => K = v_ch J N S k a l)) := by
  have zqi : mm_in (nI N) 8 = true := mm_in_8.mpr ⟨nI_pos' (by omega), nI_lt (b := 8) hN (by omega)⟩
  have zqle : nI S ≤ nI N ↔ ¬ N < S := by rw [nI_leI (by omega) (by omega)]; omega
  refine cP.of_gP (d := d + 0) me_142 ⟨Nat.le_of_ble_eq_true rfl, rfl⟩ ?_
  show gP mm_cs0 _ _ _ _ _ _ [some (.ref _), some (.int _), some (.int _), some (.int _)] [] _ _
  refine gp_aload_n dX9_addsChild_0 rfl ?_
  refine gp_gr dX9_addsChild_1 mf_9_32 rfl (by first | rfl | assumption | (simp only [*]; done)) (by first | rfl | assumption | (simp only [*]; done)) ?_
  refine gp_aload_n dX9_addsChild_4 rfl ?_
  refine gp_giv dX9_addsChild_5 mf_9_117 (by decide) (by first | rfl | assumption | (simp only [*]; done)) (by first | exact m0 | exact m1 | exact rfl) ?_
  refine gp_iload_n dX9_addsChild_8 rfl ?_
  refine gp_ias dX9_addsChild_9 (by first | rfl | assumption | (simp only [*]; done)) (by first | rfl | assumption | (simp only [*]; done)) ?_
  refine gp_aload_n dX9_addsChild_10 rfl ?_
  refine gp_gr dX9_addsChild_11 mf_9_35 rfl (by first | rfl | assumption | (simp only [*]; done)) (by first | rfl | assumption | (simp only [*]; done)) ?_
  refine gp_aload_n dX9_addsChild_14 rfl ?_
  refine gp_giv dX9_addsChild_15 mf_9_117 (by decide) (by first | rfl | assumption | (simp only [*]; done)) (by first | exact m0 | exact m1 | exact rfl) ?_
  refine gp_iload_n dX9_addsChild_18 rfl ?_
  refine gp_ias dX9_addsChild_19 (by first | rfl | assumption | (simp only [*]; done)) (by first | rfl | assumption | (simp only [*]; done)) ?_
  refine gp_aload_n dX9_addsChild_20 rfl ?_
  refine gp_gr dX9_addsChild_21 mf_9_38 rfl (by first | rfl | assumption | (simp only [*]; done)) (by first | rfl | assumption | (simp only [*]; done)) ?_
  refine gp_aload_n dX9_addsChild_24 rfl ?_
  refine gp_giv dX9_addsChild_25 mf_9_117 (by decide) (by first | rfl | assumption | (simp only [*]; done)) (by first | exact m0 | exact m1 | exact rfl) ?_
  refine gp_iload_n dX9_addsChild_28 rfl ?_
  refine gp_ias dX9_addsChild_29 (by first | rfl | assumption | (simp only [*]; done)) (by first | rfl | assumption | (simp only [*]; done)) ?_
  refine gp_aload_n dX9_addsChild_30 rfl ?_
  refine gp_gr dX9_addsChild_31 mf_9_41 rfl (by first | rfl | assumption | (simp only [*]; done)) (by first | rfl | assumption | (simp only [*]; done)) ?_
  refine gp_aload_n dX9_addsChild_34 rfl ?_
  refine gp_giv dX9_addsChild_35 mf_9_117 (by decide) (by first | rfl | assumption | (simp only [*]; done)) (by first | exact m0 | exact m1 | exact rfl) ?_
  refine gp_aload_n dX9_addsChild_38 rfl ?_
  refine gp_giv dX9_addsChild_39 mf_9_117 (by decide) (by first | rfl | assumption | (simp only [*]; done)) (by first | exact m0 | exact m1 | exact rfl) ?_
  refine gp_aload_n dX9_addsChild_42 rfl ?_
  refine gp_giv dX9_addsChild_43 mf_9_120 (by decide) (by first | rfl | assumption | (simp only [*]; done)) (by first | exact m0 | exact m1 | exact rfl) ?_
  refine gp_icc (t := 56) dX9_addsChild_46 (by decide) c2_ge (fun h1 => ?_) (fun h1 => ?_)
  · have h1' := Int32.not_lt.mpr h1
    (try simp only [zqle] at h1)
    refine gp_pu (st' := .int (0) :: _) dX9_addsChild_56 rfl ?_
    refine gp_ias dX9_addsChild_57 (by first | rfl | assumption | (simp only [*]; done)) (by first | rfl | assumption | (simp only [*]; done)) ?_
    refine gp_aload_n dX9_addsChild_58 rfl ?_
    refine gp_gr dX9_addsChild_59 mf_9_44 rfl (by first | rfl | assumption | (simp only [*]; done)) (by first | rfl | assumption | (simp only [*]; done)) ?_
    refine gp_aload_n dX9_addsChild_62 rfl ?_
    refine gp_giv dX9_addsChild_63 mf_9_117 (by decide) (by first | rfl | assumption | (simp only [*]; done)) (by first | exact m0 | exact m1 | exact rfl) ?_
    refine gp_pu (st' := .int (0) :: _) dX9_addsChild_66 rfl ?_
    refine gp_ias dX9_addsChild_67 (by first | rfl | assumption | (simp only [*]; done)) (by first | rfl | assumption | (simp only [*]; done)) ?_
    refine gp_aload_n dX9_addsChild_68 rfl ?_
    refine gp_gr dX9_addsChild_69 mf_9_47 rfl (by first | rfl | assumption | (simp only [*]; done)) (by first | rfl | assumption | (simp only [*]; done)) ?_
    refine gp_aload_n dX9_addsChild_72 rfl ?_
    refine gp_giv dX9_addsChild_73 mf_9_117 (by decide) (by first | rfl | assumption | (simp only [*]; done)) (by first | exact m0 | exact m1 | exact rfl) ?_
    refine gp_pu (st' := .int (0) :: _) dX9_addsChild_76 rfl ?_
    refine gp_ias dX9_addsChild_77 (by first | rfl | assumption | (simp only [*]; done)) (by first | rfl | assumption | (simp only [*]; done)) ?_
    refine gp_aload_n dX9_addsChild_78 rfl ?_
    refine gp_pu dX9_addsChild_79 rfl ?_
    refine gp_giv dX9_addsChild_80 mf_9_117 (by decide) (by first | rfl | assumption | (simp only [*]; done)) (by first | exact m0 | exact m1 | exact rfl) ?_
    refine gp_pu dX9_addsChild_83 rfl ?_
    refine gp_pu (st' := .int (1) :: _) dX9_addsChild_84 rfl ?_
    refine gp_pu (st' := .int _ :: _) dX9_addsChild_85 rfl ?_
    refine gp_pi dX9_addsChild_86 mf_9_117 rfl rfl (by first | rfl | assumption | (simp only [*]; done)) ?_
    refine gp_iret dX9_addsChild_89 rfl ?_
    (refine pX.mk rfl ?_
     unfold v_ch
     first | rw [show nwS N S = 0 from if_neg h1] | rw [show nwS N S = nI N from if_pos (Classical.not_not.mp h1)])
  · have h1' := Int32.not_le.mp h1
    (try simp only [zqle] at h1)
    refine gp_aload_n dX9_addsChild_49 rfl ?_
    refine gp_giv dX9_addsChild_50 mf_9_117 (by decide) (by first | rfl | assumption | (simp only [*]; done)) (by first | exact m0 | exact m1 | exact rfl) ?_
    refine gp_goto (t := 57) dX9_addsChild_53 (by decide) ?_
    refine gp_ias dX9_addsChild_57 (by first | rfl | assumption | (simp only [*]; done)) (by first | rfl | assumption | (simp only [*]; done)) ?_
    refine gp_aload_n dX9_addsChild_58 rfl ?_
    refine gp_gr dX9_addsChild_59 mf_9_44 rfl (by first | rfl | assumption | (simp only [*]; done)) (by first | rfl | assumption | (simp only [*]; done)) ?_
    refine gp_aload_n dX9_addsChild_62 rfl ?_
    refine gp_giv dX9_addsChild_63 mf_9_117 (by decide) (by first | rfl | assumption | (simp only [*]; done)) (by first | exact m0 | exact m1 | exact rfl) ?_
    refine gp_pu (st' := .int (0) :: _) dX9_addsChild_66 rfl ?_
    refine gp_ias dX9_addsChild_67 (by first | rfl | assumption | (simp only [*]; done)) (by first | rfl | assumption | (simp only [*]; done)) ?_
    refine gp_aload_n dX9_addsChild_68 rfl ?_
    refine gp_gr dX9_addsChild_69 mf_9_47 rfl (by first | rfl | assumption | (simp only [*]; done)) (by first | rfl | assumption | (simp only [*]; done)) ?_
    refine gp_aload_n dX9_addsChild_72 rfl ?_
    refine gp_giv dX9_addsChild_73 mf_9_117 (by decide) (by first | rfl | assumption | (simp only [*]; done)) (by first | exact m0 | exact m1 | exact rfl) ?_
    refine gp_pu (st' := .int (0) :: _) dX9_addsChild_76 rfl ?_
    refine gp_ias dX9_addsChild_77 (by first | rfl | assumption | (simp only [*]; done)) (by first | rfl | assumption | (simp only [*]; done)) ?_
    refine gp_aload_n dX9_addsChild_78 rfl ?_
    refine gp_pu dX9_addsChild_79 rfl ?_
    refine gp_giv dX9_addsChild_80 mf_9_117 (by decide) (by first | rfl | assumption | (simp only [*]; done)) (by first | exact m0 | exact m1 | exact rfl) ?_
    refine gp_pu dX9_addsChild_83 rfl ?_
    refine gp_pu (st' := .int (1) :: _) dX9_addsChild_84 rfl ?_
    refine gp_pu (st' := .int _ :: _) dX9_addsChild_85 rfl ?_
    refine gp_pi dX9_addsChild_86 mf_9_117 rfl rfl (by first | rfl | assumption | (simp only [*]; done)) ?_
    refine gp_iret dX9_addsChild_89 rfl ?_
    (refine pX.mk rfl ?_
     unfold v_ch
     first | rw [show nwS N S = 0 from if_neg h1] | rw [show nwS N S = nI N from if_pos (Classical.not_not.mp h1)])

set_option maxHeartbeats 400000 in
theorem dn_ef0 (d : Nat) (v : vN V N S) (m0 : K 108 0 = nI N) (m1 : K 108 1 = nI S) (hfu : ¬ y_fu V 0) (hf : nOf V 0 f) (hj : ∀ j, j < 3 → K 126 j = f j) {v2 v3 : Option Value} {Q : Option Value → mm_M → Prop} (hq : Q (some (.int 1)) (mm_sh, mm_R, y_ef K 0 f, L)) : gP mm_cs0 (d + 1) 9 false (some .boolean) cX9_item 166 [some (.ref 108), some (.int 0), v2, v3] [] (mm_sh, mm_R, K, L) Q := by
  have hf0 : K 126 0 = f 0 := hj 0 (by decide)
  have hf1 : K 126 1 = f 1 := hj 1 (by decide)
  have hf2 : K 126 2 = f 2 := hj 2 (by decide)
  refine gp_iload_n dX9_item_166 rfl ?_
  refine gp_ts (t := 196) dX9_item_167 rfl (by decide) ?_
  refine gp_aload_n dX9_item_196 rfl ?_
  refine gp_aload_n dX9_item_197 rfl ?_
  refine gp_gr dX9_item_198 mf_9_81 rfl (by first | rfl | assumption | (simp only [*]; done)) (by first | rfl | assumption | (simp only [*]; done)) ?_
  refine gp_pu (st' := .int (0) :: _) dX9_item_201 rfl ?_
  refine gp_ialv dX9_item_202 rfl (by first | rfl | assumption | (simp only [*]; done)) (by first | rfl | assumption | (simp only [*]; done)) (by first | exact hf0 | exact hf1 | exact hf2 | exact rfl) ?_
  refine gp_aload_n dX9_item_203 rfl ?_
  refine gp_gr dX9_item_204 mf_9_81 rfl (by first | rfl | assumption | (simp only [*]; done)) (by first | rfl | assumption | (simp only [*]; done)) ?_
  refine gp_pu (st' := .int (1) :: _) dX9_item_207 rfl ?_
  refine gp_ialv dX9_item_208 rfl (by first | rfl | assumption | (simp only [*]; done)) (by first | rfl | assumption | (simp only [*]; done)) (by first | exact hf0 | exact hf1 | exact hf2 | exact rfl) ?_
  refine gp_aload_n dX9_item_209 rfl ?_
  refine gp_gr dX9_item_210 mf_9_81 rfl (by first | rfl | assumption | (simp only [*]; done)) (by first | rfl | assumption | (simp only [*]; done)) ?_
  refine gp_pu (st' := .int (2) :: _) dX9_item_213 rfl ?_
  refine gp_ialv dX9_item_214 rfl (by first | rfl | assumption | (simp only [*]; done)) (by first | rfl | assumption | (simp only [*]; done)) (by first | exact hf0 | exact hf1 | exact hf2 | exact rfl) ?_
  refine gp_callX (kind := 1) (args := [.ref _, .int _, .int _, .int _]) (rest := _) dX9_item_215 (Or.inr (Or.inl ⟨rfl, rfl⟩)) mk_9_148 (by decide) me_142 rfl rfl rfl rfl rfl (mm_rc_of (by first | rfl | assumption | (simp only [*]; done))) (mx_addsChild _ m0 m1 (fu_0 v hfu) v.2.1) ?_
  intro K1 zqk1
  rw [zqk1]
  refine gp_pu dX9_item_218 rfl ?_
  refine gp_goto (t := 295) dX9_item_219 (by decide) ?_
  refine gp_pu (st' := .int (1) :: _) dX9_item_295 rfl ?_
  refine gp_zret dX9_item_296 rfl (by first | exact Or.inl rfl | exact Or.inr rfl | assumption) ?_
  (rw [y_ef_0 m0 m1 v.1 v.2.1] at hq; exact hq)

set_option maxHeartbeats 400000 in
theorem dn_ef1 (d : Nat) (v : vN V N S) (m0 : K 108 0 = nI N) (m1 : K 108 1 = nI S) (hfu : ¬ y_fu V 1) (hf : nOf V 1 f) (hj : ∀ j, j < 2 → K 126 j = f j) {v2 v3 : Option Value} {Q : Option Value → mm_M → Prop} (hq : Q (some (.int 1)) (mm_sh, mm_R, y_ef K 1 f, L)) : gP mm_cs0 (d + 1) 9 false (some .boolean) cX9_item 166 [some (.ref 108), some (.int 1), v2, v3] [] (mm_sh, mm_R, K, L) Q := by
  have hf0 : K 126 0 = f 0 := hj 0 (by decide)
  have hf1 : K 126 1 = f 1 := hj 1 (by decide)
  refine gp_iload_n dX9_item_166 rfl ?_
  refine gp_ts (t := 222) dX9_item_167 rfl (by decide) ?_
  refine gp_aload_n dX9_item_222 rfl ?_
  refine gp_aload_n dX9_item_223 rfl ?_
  refine gp_gr dX9_item_224 mf_9_81 rfl (by first | rfl | assumption | (simp only [*]; done)) (by first | rfl | assumption | (simp only [*]; done)) ?_
  refine gp_pu (st' := .int (0) :: _) dX9_item_227 rfl ?_
  refine gp_ialv dX9_item_228 rfl (by first | rfl | assumption | (simp only [*]; done)) (by first | rfl | assumption | (simp only [*]; done)) (by first | exact hf0 | exact hf1 | exact rfl) ?_
  refine gp_aload_n dX9_item_229 rfl ?_
  refine gp_gr dX9_item_230 mf_9_81 rfl (by first | rfl | assumption | (simp only [*]; done)) (by first | rfl | assumption | (simp only [*]; done)) ?_
  refine gp_pu (st' := .int (1) :: _) dX9_item_233 rfl ?_
  refine gp_ialv dX9_item_234 rfl (by first | rfl | assumption | (simp only [*]; done)) (by first | rfl | assumption | (simp only [*]; done)) (by first | exact hf0 | exact hf1 | exact rfl) ?_
  refine gp_callX (kind := 1) (args := [.ref _, .int _, .int _]) (rest := _) dX9_item_235 (Or.inr (Or.inl ⟨rfl, rfl⟩)) mk_9_152 (by decide) me_143 rfl rfl rfl rfl rfl (mm_rc_of (by first | rfl | assumption | (simp only [*]; done))) (mx_addsSack _ m1 (fu_1 v hfu)) ?_
  intro K1 zqk1
  rw [zqk1]
  refine gp_pu dX9_item_238 rfl ?_
  refine gp_goto (t := 295) dX9_item_239 (by decide) ?_
  refine gp_pu (st' := .int (1) :: _) dX9_item_295 rfl ?_
  refine gp_zret dX9_item_296 rfl (by first | exact Or.inl rfl | exact Or.inr rfl | assumption) ?_
  (rw [y_ef_1 m1 v.2.1] at hq; exact hq)

set_option maxHeartbeats 400000 in
theorem dn_ef2 (d : Nat) (v : vN V N S) (m0 : K 108 0 = nI N) (m1 : K 108 1 = nI S) (hfu : ¬ y_fu V 2) (hf : nOf V 2 f) (hj : ∀ j, j < 2 → K 126 j = f j) {v2 v3 : Option Value} {Q : Option Value → mm_M → Prop} (hq : Q (some (.int 1)) (mm_sh, mm_R, y_ef K 2 f, L)) : gP mm_cs0 (d + 1) 9 false (some .boolean) cX9_item 166 [some (.ref 108), some (.int 2), v2, v3] [] (mm_sh, mm_R, K, L) Q := by
  have hf0 : K 126 0 = f 0 := hj 0 (by decide)
  have hf1 : K 126 1 = f 1 := hj 1 (by decide)
  have zqi := v.in8 (n_2 v hf).1
  refine gp_iload_n dX9_item_166 rfl ?_
  refine gp_ts (t := 242) dX9_item_167 rfl (by decide) ?_
  refine gp_aload_n dX9_item_242 rfl ?_
  refine gp_gr dX9_item_243 mf_9_41 rfl (by first | rfl | assumption | (simp only [*]; done)) (by first | rfl | assumption | (simp only [*]; done)) ?_
  refine gp_aload_n dX9_item_246 rfl ?_
  refine gp_gr dX9_item_247 mf_9_81 rfl (by first | rfl | assumption | (simp only [*]; done)) (by first | rfl | assumption | (simp only [*]; done)) ?_
  refine gp_pu (st' := .int (0) :: _) dX9_item_250 rfl ?_
  refine gp_ialv dX9_item_251 rfl (by first | rfl | assumption | (simp only [*]; done)) (by first | rfl | assumption | (simp only [*]; done)) (by first | exact hf0 | exact hf1 | exact rfl) ?_
  refine gp_aload_n dX9_item_252 rfl ?_
  refine gp_gr dX9_item_253 mf_9_81 rfl (by first | rfl | assumption | (simp only [*]; done)) (by first | rfl | assumption | (simp only [*]; done)) ?_
  refine gp_pu (st' := .int (1) :: _) dX9_item_256 rfl ?_
  refine gp_ialv dX9_item_257 rfl (by first | rfl | assumption | (simp only [*]; done)) (by first | rfl | assumption | (simp only [*]; done)) (by first | exact hf0 | exact hf1 | exact rfl) ?_
  refine gp_ias dX9_item_258 (by first | rfl | assumption | (simp only [*]; done)) zqi ?_
  refine gp_goto (t := 295) dX9_item_259 (by decide) ?_
  refine gp_pu (st' := .int (1) :: _) dX9_item_295 rfl ?_
  refine gp_zret dX9_item_296 rfl (by first | exact Or.inl rfl | exact Or.inr rfl | assumption) ?_
  exact hq

set_option maxHeartbeats 400000 in
theorem dn_ef3 (d : Nat) (v : vN V N S) (m0 : K 108 0 = nI N) (m1 : K 108 1 = nI S) (hfu : ¬ y_fu V 3) (hf : nOf V 3 f) (hj : ∀ j, j < 2 → K 126 j = f j) {v2 v3 : Option Value} {Q : Option Value → mm_M → Prop} (hq : Q (some (.int 1)) (mm_sh, mm_R, y_ef K 3 f, L)) : gP mm_cs0 (d + 1) 9 false (some .boolean) cX9_item 166 [some (.ref 108), some (.int 3), v2, v3] [] (mm_sh, mm_R, K, L) Q := by
  have hf0 : K 126 0 = f 0 := hj 0 (by decide)
  have hf1 : K 126 1 = f 1 := hj 1 (by decide)
  have zqi := v.in8 (n_3 v hf).1
  refine gp_iload_n dX9_item_166 rfl ?_
  refine gp_ts (t := 262) dX9_item_167 rfl (by decide) ?_
  refine gp_aload_n dX9_item_262 rfl ?_
  refine gp_gr dX9_item_263 mf_9_44 rfl (by first | rfl | assumption | (simp only [*]; done)) (by first | rfl | assumption | (simp only [*]; done)) ?_
  refine gp_aload_n dX9_item_266 rfl ?_
  refine gp_gr dX9_item_267 mf_9_81 rfl (by first | rfl | assumption | (simp only [*]; done)) (by first | rfl | assumption | (simp only [*]; done)) ?_
  refine gp_pu (st' := .int (0) :: _) dX9_item_270 rfl ?_
  refine gp_ialv dX9_item_271 rfl (by first | rfl | assumption | (simp only [*]; done)) (by first | rfl | assumption | (simp only [*]; done)) (by first | exact hf0 | exact hf1 | exact rfl) ?_
  refine gp_aload_n dX9_item_272 rfl ?_
  refine gp_gr dX9_item_273 mf_9_81 rfl (by first | rfl | assumption | (simp only [*]; done)) (by first | rfl | assumption | (simp only [*]; done)) ?_
  refine gp_pu (st' := .int (1) :: _) dX9_item_276 rfl ?_
  refine gp_ialv dX9_item_277 rfl (by first | rfl | assumption | (simp only [*]; done)) (by first | rfl | assumption | (simp only [*]; done)) (by first | exact hf0 | exact hf1 | exact rfl) ?_
  refine gp_ias dX9_item_278 (by first | rfl | assumption | (simp only [*]; done)) zqi ?_
  refine gp_goto (t := 295) dX9_item_279 (by decide) ?_
  refine gp_pu (st' := .int (1) :: _) dX9_item_295 rfl ?_
  refine gp_zret dX9_item_296 rfl (by first | exact Or.inl rfl | exact Or.inr rfl | assumption) ?_
  exact hq

set_option maxHeartbeats 400000 in
theorem dn_ef4 (d : Nat) (v : vN V N S) (m0 : K 108 0 = nI N) (m1 : K 108 1 = nI S) (hfu : ¬ y_fu V 4) (hf : nOf V 4 f) (hj : ∀ j, j < 1 → K 126 j = f j) {v2 v3 : Option Value} {Q : Option Value → mm_M → Prop} (hq : Q (some (.int 1)) (mm_sh, mm_R, y_ef K 4 f, L)) : gP mm_cs0 (d + 1) 9 false (some .boolean) cX9_item 166 [some (.ref 108), some (.int 4), v2, v3] [] (mm_sh, mm_R, K, L) Q := by
  have hf0 : K 126 0 = f 0 := hj 0 (by decide)
  refine gp_iload_n dX9_item_166 rfl ?_
  refine gp_ts (t := 282) dX9_item_167 rfl (by decide) ?_
  refine gp_aload_n dX9_item_282 rfl ?_
  refine gp_iload_n dX9_item_283 rfl ?_
  refine gp_pu (st' := .int (4) :: _) dX9_item_284 rfl ?_
  refine gp_pu (st' := .int _ :: _) dX9_item_285 rfl ?_
  refine gp_aload_n dX9_item_286 rfl ?_
  refine gp_gr dX9_item_287 mf_9_81 rfl (by first | rfl | assumption | (simp only [*]; done)) (by first | rfl | assumption | (simp only [*]; done)) ?_
  refine gp_pu (st' := .int (0) :: _) dX9_item_290 rfl ?_
  refine gp_ialv dX9_item_291 rfl (by first | rfl | assumption | (simp only [*]; done)) (by first | rfl | assumption | (simp only [*]; done)) (by first | exact hf0 | exact rfl) ?_
  refine gp_callX (kind := 1) (args := [.ref _, .int _, .int _]) (rest := _) dX9_item_292 (Or.inr (Or.inl ⟨rfl, rfl⟩)) mk_9_166 (by decide) me_152 rfl rfl rfl rfl rfl (mm_rc_of (by first | rfl | assumption | (simp only [*]; done))) ((congrArg (fun y : Int32 => cP (d + 1) 152 [.ref 108, .int y, .int (f 0)] (mm_sh, mm_R, K, L) (pX none L (fun K2 => K2 = mm_u K 108 2 (f 0)))) (show ((4 : Int32) - 4) = 0 by decide)).mpr (tl_0 d K)) ?_
  intro K1 zqk1
  rw [zqk1]
  refine gp_pu (st' := .int (1) :: _) dX9_item_295 rfl ?_
  refine gp_zret dX9_item_296 rfl (by first | exact Or.inl rfl | exact Or.inr rfl | assumption) ?_
  (rw [y_ef_t (by decide)] at hq; exact hq)

set_option maxHeartbeats 400000 in
theorem dn_ef5 (d : Nat) (v : vN V N S) (m0 : K 108 0 = nI N) (m1 : K 108 1 = nI S) (hfu : ¬ y_fu V 5) (hf : nOf V 5 f) (hj : ∀ j, j < 1 → K 126 j = f j) {v2 v3 : Option Value} {Q : Option Value → mm_M → Prop} (hq : Q (some (.int 1)) (mm_sh, mm_R, y_ef K 5 f, L)) : gP mm_cs0 (d + 1) 9 false (some .boolean) cX9_item 166 [some (.ref 108), some (.int 5), v2, v3] [] (mm_sh, mm_R, K, L) Q := by
  have hf0 : K 126 0 = f 0 := hj 0 (by decide)
  refine gp_iload_n dX9_item_166 rfl ?_
  refine gp_ts (t := 282) dX9_item_167 rfl (by decide) ?_
  refine gp_aload_n dX9_item_282 rfl ?_
  refine gp_iload_n dX9_item_283 rfl ?_
  refine gp_pu (st' := .int (4) :: _) dX9_item_284 rfl ?_
  refine gp_pu (st' := .int _ :: _) dX9_item_285 rfl ?_
  refine gp_aload_n dX9_item_286 rfl ?_
  refine gp_gr dX9_item_287 mf_9_81 rfl (by first | rfl | assumption | (simp only [*]; done)) (by first | rfl | assumption | (simp only [*]; done)) ?_
  refine gp_pu (st' := .int (0) :: _) dX9_item_290 rfl ?_
  refine gp_ialv dX9_item_291 rfl (by first | rfl | assumption | (simp only [*]; done)) (by first | rfl | assumption | (simp only [*]; done)) (by first | exact hf0 | exact rfl) ?_
  refine gp_callX (kind := 1) (args := [.ref _, .int _, .int _]) (rest := _) dX9_item_292 (Or.inr (Or.inl ⟨rfl, rfl⟩)) mk_9_166 (by decide) me_152 rfl rfl rfl rfl rfl (mm_rc_of (by first | rfl | assumption | (simp only [*]; done))) ((congrArg (fun y : Int32 => cP (d + 1) 152 [.ref 108, .int y, .int (f 0)] (mm_sh, mm_R, K, L) (pX none L (fun K2 => K2 = mm_u K 108 3 (f 0)))) (show ((5 : Int32) - 4) = 1 by decide)).mpr (tl_1 d K)) ?_
  intro K1 zqk1
  rw [zqk1]
  refine gp_pu (st' := .int (1) :: _) dX9_item_295 rfl ?_
  refine gp_zret dX9_item_296 rfl (by first | exact Or.inl rfl | exact Or.inr rfl | assumption) ?_
  (rw [y_ef_t (by decide)] at hq; exact hq)

set_option maxHeartbeats 400000 in
theorem dn_ef6 (d : Nat) (v : vN V N S) (m0 : K 108 0 = nI N) (m1 : K 108 1 = nI S) (hfu : ¬ y_fu V 6) (hf : nOf V 6 f) (hj : ∀ j, j < 1 → K 126 j = f j) {v2 v3 : Option Value} {Q : Option Value → mm_M → Prop} (hq : Q (some (.int 1)) (mm_sh, mm_R, y_ef K 6 f, L)) : gP mm_cs0 (d + 1) 9 false (some .boolean) cX9_item 166 [some (.ref 108), some (.int 6), v2, v3] [] (mm_sh, mm_R, K, L) Q := by
  have hf0 : K 126 0 = f 0 := hj 0 (by decide)
  refine gp_iload_n dX9_item_166 rfl ?_
  refine gp_ts (t := 282) dX9_item_167 rfl (by decide) ?_
  refine gp_aload_n dX9_item_282 rfl ?_
  refine gp_iload_n dX9_item_283 rfl ?_
  refine gp_pu (st' := .int (4) :: _) dX9_item_284 rfl ?_
  refine gp_pu (st' := .int _ :: _) dX9_item_285 rfl ?_
  refine gp_aload_n dX9_item_286 rfl ?_
  refine gp_gr dX9_item_287 mf_9_81 rfl (by first | rfl | assumption | (simp only [*]; done)) (by first | rfl | assumption | (simp only [*]; done)) ?_
  refine gp_pu (st' := .int (0) :: _) dX9_item_290 rfl ?_
  refine gp_ialv dX9_item_291 rfl (by first | rfl | assumption | (simp only [*]; done)) (by first | rfl | assumption | (simp only [*]; done)) (by first | exact hf0 | exact rfl) ?_
  refine gp_callX (kind := 1) (args := [.ref _, .int _, .int _]) (rest := _) dX9_item_292 (Or.inr (Or.inl ⟨rfl, rfl⟩)) mk_9_166 (by decide) me_152 rfl rfl rfl rfl rfl (mm_rc_of (by first | rfl | assumption | (simp only [*]; done))) ((congrArg (fun y : Int32 => cP (d + 1) 152 [.ref 108, .int y, .int (f 0)] (mm_sh, mm_R, K, L) (pX none L (fun K2 => K2 = mm_u K 108 4 (f 0)))) (show ((6 : Int32) - 4) = 2 by decide)).mpr (tl_2 d K)) ?_
  intro K1 zqk1
  rw [zqk1]
  refine gp_pu (st' := .int (1) :: _) dX9_item_295 rfl ?_
  refine gp_zret dX9_item_296 rfl (by first | exact Or.inl rfl | exact Or.inr rfl | assumption) ?_
  (rw [y_ef_t (by decide)] at hq; exact hq)

set_option maxHeartbeats 400000 in
theorem dn_ef7 (d : Nat) (v : vN V N S) (m0 : K 108 0 = nI N) (m1 : K 108 1 = nI S) (hfu : ¬ y_fu V 7) (hf : nOf V 7 f) (hj : ∀ j, j < 1 → K 126 j = f j) {v2 v3 : Option Value} {Q : Option Value → mm_M → Prop} (hq : Q (some (.int 1)) (mm_sh, mm_R, y_ef K 7 f, L)) : gP mm_cs0 (d + 1) 9 false (some .boolean) cX9_item 166 [some (.ref 108), some (.int 7), v2, v3] [] (mm_sh, mm_R, K, L) Q := by
  have hf0 : K 126 0 = f 0 := hj 0 (by decide)
  refine gp_iload_n dX9_item_166 rfl ?_
  refine gp_ts (t := 282) dX9_item_167 rfl (by decide) ?_
  refine gp_aload_n dX9_item_282 rfl ?_
  refine gp_iload_n dX9_item_283 rfl ?_
  refine gp_pu (st' := .int (4) :: _) dX9_item_284 rfl ?_
  refine gp_pu (st' := .int _ :: _) dX9_item_285 rfl ?_
  refine gp_aload_n dX9_item_286 rfl ?_
  refine gp_gr dX9_item_287 mf_9_81 rfl (by first | rfl | assumption | (simp only [*]; done)) (by first | rfl | assumption | (simp only [*]; done)) ?_
  refine gp_pu (st' := .int (0) :: _) dX9_item_290 rfl ?_
  refine gp_ialv dX9_item_291 rfl (by first | rfl | assumption | (simp only [*]; done)) (by first | rfl | assumption | (simp only [*]; done)) (by first | exact hf0 | exact rfl) ?_
  refine gp_callX (kind := 1) (args := [.ref _, .int _, .int _]) (rest := _) dX9_item_292 (Or.inr (Or.inl ⟨rfl, rfl⟩)) mk_9_166 (by decide) me_152 rfl rfl rfl rfl rfl (mm_rc_of (by first | rfl | assumption | (simp only [*]; done))) ((congrArg (fun y : Int32 => cP (d + 1) 152 [.ref 108, .int y, .int (f 0)] (mm_sh, mm_R, K, L) (pX none L (fun K2 => K2 = mm_u K 108 5 (f 0)))) (show ((7 : Int32) - 4) = 3 by decide)).mpr (tl_3 d K)) ?_
  intro K1 zqk1
  rw [zqk1]
  refine gp_pu (st' := .int (1) :: _) dX9_item_295 rfl ?_
  refine gp_zret dX9_item_296 rfl (by first | exact Or.inl rfl | exact Or.inr rfl | assumption) ?_
  (rw [y_ef_t (by decide)] at hq; exact hq)

theorem dn_ef (d : Nat) (v : vN V N S) (m0 : K 108 0 = nI N) (m1 : K 108 1 = nI S) (hw : w < 8) (hfu : ¬ y_fu V w) (hf : nOf V w f) (hj : ∀ j, j < y_cn w → K 126 j = f j) {v2 v3 : Option Value} {Q : Option Value → mm_M → Prop} (hq : Q (some (.int 1)) (mm_sh, mm_R, y_ef K w f, L)) : gP mm_cs0 (d + 1) 9 false (some .boolean) cX9_item 166 [some (.ref 108), some (.int (nI w)), v2, v3] [] (mm_sh, mm_R, K, L) Q := by
  have zqw : w = 0 ∨ w = 1 ∨ w = 2 ∨ w = 3 ∨ w = 4 ∨ w = 5 ∨ w = 6 ∨ w = 7 := by omega
  rcases zqw with rfl | rfl | rfl | rfl | rfl | rfl | rfl | rfl
  · exact dn_ef0 d v m0 m1 hfu hf hj hq
  · exact dn_ef1 d v m0 m1 hfu hf hj hq
  · exact dn_ef2 d v m0 m1 hfu hf hj hq
  · exact dn_ef3 d v m0 m1 hfu hf hj hq
  · exact dn_ef4 d v m0 m1 hfu hf hj hq
  · exact dn_ef5 d v m0 m1 hfu hf hj hq
  · exact dn_ef6 d v m0 m1 hfu hf hj hq
  · exact dn_ef7 d v m0 m1 hfu hf hj hq

/-- numbers told by now, the reference at place a -/
def mit (V C : pI) (T : Nat → Int32) (z E a i : Nat) (f : Nat → Int32) (K : pI) : Prop := mR V C K ∧ K 127 = T ∧ mst z E a K ∧ ∀ j, j < i → K 126 j = f j
theorem mit.up {a i b : Nat} (h : mit V C T z E a i f K) : mit V C T z E b i f (mm_u K 108 29 (nI b)) := ⟨h.1.u (by decide) rfl, (mm_u_k _ _ _ (by decide)).trans h.2.1, ⟨(mm_u_j _ _ (by decide)).trans h.2.2.1.1, mm_u_s _ _ _ _, (mm_u_j _ _ (by decide)).trans h.2.2.1.2.2⟩, fun j hj => by rw [mm_u_o _ _ _ _ (by decide)]; exact h.2.2.2 j hj⟩
theorem mit.tl {a i : Nat} {x : Int32} (h : mit V C T z E a i f K) : mit V C T z E a (i + 1) (yu f i x) (mm_u K 126 i x) := by
  refine ⟨h.1.u (by decide) rfl, (mm_u_k _ _ _ (by decide)).trans h.2.1, ⟨(mm_u_o _ _ _ _ (by decide)).trans h.2.2.1.1, (mm_u_o _ _ _ _ (by decide)).trans h.2.2.1.2.1, (mm_u_o _ _ _ _ (by decide)).trans h.2.2.1.2.2⟩, fun j hj => ?_⟩
  by_cases y : j = i
  · rw [y, mm_u_s, yu_s]
  · rw [mm_u_j _ _ y, yu_o _ _ y]; exact h.2.2.2 j (by omega)
theorem nums_cn : ∀ w, w < 8 → numsL.getD w 0 = nI (y_cn w) := by decide
/-- the reference's tables -/
def wnV (V : pI) : Prop := (∀ j, j < 48 → V 124 j = wordsL.getD j 0) ∧ ∀ j, j < 8 → V 125 j = numsL.getD j 0
theorem wnV.wd (h : wnV V) (hs : mR V C K) : wOf K := fun j hj => by rw [hs.g (by decide) (by decide) (by decide)]; exact h.1 j hj
theorem wnV.n (h : wnV V) (hs : mR V C K) (hw : w < 8) : K 125 (nI w).toNatClampNeg = nI (y_cn w) := by
  rw [nI_clamp (by omega), hs.g (by decide) (by decide) (by decide), h.2 w hw]
  exact nums_cn w hw

set_option maxHeartbeats 400000 in
theorem dn_it121 (d : Nat) (htx : txM z t E L) (v : vN V N S) (hw : w < 8) {n i q : Nat} (hi : i < y_cn w) (hqE : q + 1 ≤ E) (h32 : t q = 32) (zqm : mit V C T z E (q + 1) i f K) {R : Nat ⊕ (Nat × (Nat → Int32))} (hR : y_ns t (y_lo w) (y_hi V w) (n + 1) i q f = R) {Q : Option Value → mm_M → Prop} {v3 : Option Value} (he : ∀ e K1, R = .inl e → mR V C K1 → K1 127 = T → K1 108 32 = nI e → Q (some (.int 0)) (mm_sh, mm_R, K1, L)) (hnx : ∀ K1, mit V C T z E (y_nv t 3 (q + 1) 0).2 (i + 1) (yu f i (y_nv t 3 (q + 1) 0).1) K1 → y_ns t (y_lo w) (y_hi V w) n (i + 1) (y_nv t 3 (q + 1) 0).2 (yu f i (y_nv t 3 (q + 1) 0).1) = R → gP mm_cs0 (d + 2) 9 false (some .boolean) cX9_item 57 [some (.ref 108), some (.int (nI w)), some (.int (nI (i + 1))), some (.int (nI (q + 1)))] [] (mm_sh, mm_R, K1, L) Q) : gP mm_cs0 (d + 2) 9 false (some .boolean) cX9_item 121 [some (.ref 108), some (.int (nI w)), some (.int (nI i)), v3] [] (mm_sh, mm_R, K, L) Q := by
  have hE := htx.2.1
  have hcn := (y_cn_b w).2
  have zqw := y_nv_w (t := t) (q + 1)
  have zqi3 : mm_in (nI i) 3 = true := (mm_in_i (n := 3) (by omega)).mpr ⟨nI_pos' (by omega), nI_lt (b := 3) (by omega) (by omega)⟩
  refine gp_aload_n dX9_item_121 rfl ?_
  refine gp_giv dX9_item_122 mf_9_176 (by decide) (by first | rfl | assumption | (simp only [*]; done)) (by first | exact zqm.2.2.1.2.1 | exact y4.2 | exact rfl) ?_
  refine gp_istore_n (ls' := [some (.ref _), some (.int _), some (.int _), some (.int _)]) dX9_item_125 rfl (Nat.le_of_ble_eq_true rfl) ?_
  refine gp_aload_n dX9_item_126 rfl ?_
  refine gp_callX (kind := 1) (args := [.ref _]) (rest := _) dX9_item_127 (Or.inr (Or.inl ⟨rfl, rfl⟩)) mk_9_201 (by decide) me_159 rfl rfl rfl rfl rfl (mm_rc_of (by first | rfl | assumption | (simp only [*]; done))) (mt_reads _ htx zqm.2.2.1 hqE) ?_
  intro K1 zqk1
  refine gp_ifc (t := 135) dX9_item_130 (by decide) c1_ne (fun h1 => ?_) (fun h1 => ?_)
  · obtain ⟨y1, y2, y3, y4, y5⟩ := zqk1.resolve_left (fun y => absurd (by rw [bi_f (fun y6 => y6 y.1)]) h1)
    have zqm2 : mit V C T z E (y_nv t 3 (q + 1) 0).2 i f K1 := ⟨zqm.1.o108 y2 (fun j hj => y3 j (by omega) (by omega)), (y2 127 (by decide)).trans zqm.2.1, ⟨(y3 28 (by decide) (by decide)).trans zqm.2.2.1.1, y4, (y3 30 (by decide) (by decide)).trans zqm.2.2.1.2.2⟩, fun j hj => by rw [y2 126 (by decide)]; exact zqm.2.2.2 j hj⟩
    have zq0 : K1 108 0 = V 108 0 := zqm2.1.r (by decide)
    have zq1 : K1 108 1 = V 108 1 := zqm2.1.r (by decide)
    refine gp_aload_n dX9_item_135 rfl ?_
    refine gp_iload_n dX9_item_136 rfl ?_
    refine gp_iload_n dX9_item_137 rfl ?_
    refine gp_call (kind := 1) (args := [.ref _, .int _, .int _]) (rest := _) dX9_item_138 (Or.inr (Or.inl ⟨rfl, rfl⟩)) mk_9_204 (by decide) me_160 rfl rfl rfl rfl rfl (mm_rc_of (by first | rfl | assumption | (simp only [*]; done))) (ok_isSo _ _ v zq0 zq1 y5 zqw.1 hw hi) rfl ?_
    refine gp_ifc (t := 150) dX9_item_141 (by decide) c1_ne (fun h2 => ?_) (fun h2 => ?_)
    · refine gp_aload_n dX9_item_150 rfl ?_
      refine gp_gr dX9_item_151 mf_9_81 rfl (by first | rfl | assumption | (simp only [*]; done)) (by first | rfl | assumption | (simp only [*]; done)) ?_
      refine gp_iload_n dX9_item_154 rfl ?_
      refine gp_aload_n dX9_item_155 rfl ?_
      refine gp_giv dX9_item_156 mf_9_185 (by decide) (by first | rfl | assumption | (simp only [*]; done)) (by first | exact zqm.2.2.1.2.1 | exact y4.2 | exact rfl) ?_
      refine gp_ias dX9_item_159 (by first | rfl | assumption | (simp only [*]; done)) zqi3 ?_
      refine gp_iinc (v := (1)) (ls' := [some (.ref _), some (.int _), some (.int _), some (.int _)]) dX9_item_160 rfl (by decide) rfl ?_
      refine gp_goto (t := 57) dX9_item_163 (by decide) ?_
      (rw [nI_1]
       have hc := bi_n0 h2
       rw [y5, nI_clamp (by omega)]
       have hns : ¬ ((y_nv t 3 (q + 1) 0).2 = q + 1 ∨ ¬ (y_lo w i ≤ (y_nv t 3 (q + 1) 0).1 ∧ (y_nv t 3 (q + 1) 0).1 ≤ y_hi V w i)) := by
        rintro (y6 | y6)
        · exact y1 y6
        · exact y6 hc
       rw [y_ns_k h32 hns] at hR
       exact hnx _ zqm2.tl hR)
    · refine gp_aload_n dX9_item_144 rfl ?_
      refine gp_iload_n dX9_item_145 rfl ?_
      refine gp_call (kind := 1) (args := [.ref _, .int _]) (rest := _) dX9_item_146 (Or.inr (Or.inl ⟨rfl, rfl⟩)) mk_9_192 (by decide) me_155 rfl rfl rfl rfl rfl (mm_rc_of (by first | rfl | assumption | (simp only [*]; done))) (ok_wrong _ _ _ _) rfl ?_
      refine gp_zret dX9_item_149 rfl (by first | exact Or.inl rfl | exact Or.inr rfl | assumption) ?_
      (refine he (q + 1) _ ?_ (zqm2.1.u (by decide) rfl) ((mm_u_k _ _ _ (by decide)).trans zqm2.2.1) (mm_u_s _ _ _ _)
       rw [← hR]
       exact y_ns_e h32 (Or.inr (bi_0.mp (Classical.not_not.mp h2))))
  · refine gp_pu (st' := .int (0) :: _) dX9_item_133 rfl ?_
    refine gp_zret dX9_item_134 rfl (by first | exact Or.inl rfl | exact Or.inr rfl | assumption) ?_
    (obtain ⟨y1, y2, y3, y4⟩ := zqk1.resolve_right (fun y => absurd (by rw [bi_t y.1]; decide) h1)
     refine he (q + 1) K1 ?_ (zqm.1.o108 y2 (fun j hj => y3 j (by omega) (by omega))) ((y2 127 (by decide)).trans zqm.2.1) y4
     rw [← hR]
     exact y_ns_e h32 (Or.inl y1))

set_option maxHeartbeats 400000 in
theorem lp_it57 (d : Nat) (htx : txM z t E L) (v : vN V N S) (hwn : wnV V) (hw : w < 8) {R : Nat ⊕ (Nat × (Nat → Int32))} {Q : Option Value → mm_M → Prop} : ∀ (n i : Nat) (q : Nat) (f : Nat → Int32) (K : pI) (v3 : Option Value), i + n = (y_cn w) → 1 ≤ i → q ≤ E → mit V C T z E q i f K → y_ns t (y_lo w) (y_hi V w) n i q f = R → (∀ e K1, R = .inl e → mR V C K1 → K1 127 = T → K1 108 32 = nI e → Q (some (.int 0)) (mm_sh, mm_R, K1, L)) → (∀ q1 f1 K1 v3, R = .inr (q1, f1) → mit V C T z E q1 (y_cn w) f1 K1 → gP mm_cs0 (d + 2) 9 false (some .boolean) cX9_item 166 [some (.ref 108), some (.int (nI w)), some (.int (nI (y_cn w))), v3] [] (mm_sh, mm_R, K1, L) Q) → gP mm_cs0 (d + 2) 9 false (some .boolean) cX9_item 57 [some (.ref 108), some (.int (nI w)), some (.int (nI i)), v3] [] (mm_sh, mm_R, K, L) Q := by
  intro n
  induction n with
  | zero =>
    intro i q f K v3 hi hi1 hqE zqm hR he hk
    obtain rfl : i = (y_cn w) := by omega
    have hE := htx.2.1
    have hcn := (y_cn_b w).2
    have zqn := hwn.n zqm.1 hw
    have zqi8 : mm_in (nI w) 8 = true := mm_in_8.mpr ⟨nI_pos' (by omega), nI_lt (b := 8) hw (by omega)⟩
    have hc1 : nI (y_cn w) ≤ nI (y_cn w) := Int32.le_refl _
    refine gp_iload_n dX9_item_57 rfl ?_
    refine gp_aload_n dX9_item_58 rfl ?_
    refine gp_gr dX9_item_59 mf_9_78 rfl (by first | rfl | assumption | (simp only [*]; done)) (by first | rfl | assumption | (simp only [*]; done)) ?_
    refine gp_iload_n dX9_item_62 rfl ?_
    refine gp_ialv dX9_item_63 rfl (by first | rfl | assumption | (simp only [*]; done)) zqi8 (by first | exact zqn | exact rfl) ?_
    refine gp_icc (t := 166) dX9_item_64 (by decide) c2_ge (fun h1 => ?_) (fun h1 => ?_)
    · have h1' := Int32.not_lt.mpr h1
      exact hk _ _ _ _ hR.symm zqm
    · exact absurd hc1 h1
  | succ n ih =>
    intro i q f K v3 hi hi1 hqE zqm hR he hk
    have hE := htx.2.1
    have hcn := (y_cn_b w).2
    have zqn := hwn.n zqm.1 hw
    have zqi8 : mm_in (nI w) 8 = true := mm_in_8.mpr ⟨nI_pos' (by omega), nI_lt (b := 8) hw (by omega)⟩
    have hc1 : ¬ nI (y_cn w) ≤ nI i := nI_ge (by omega) (by omega)
    have zqo : nI E ≤ nI q → t q = 0 := fun y => htx.2.2.2 _ (by
      by_cases x : E ≤ q
      · exact x
      · exact absurd y (nI_ge (by omega) (by omega)))
    have zqp : ¬ nI E ≤ nI q → q < E := fun y => by
      by_cases x : q < E
      · exact x
      · exact absurd (nI_le (by omega) (by omega)) y
    refine gp_iload_n dX9_item_57 rfl ?_
    refine gp_aload_n dX9_item_58 rfl ?_
    refine gp_gr dX9_item_59 mf_9_78 rfl (by first | rfl | assumption | (simp only [*]; done)) (by first | rfl | assumption | (simp only [*]; done)) ?_
    refine gp_iload_n dX9_item_62 rfl ?_
    refine gp_ialv dX9_item_63 rfl (by first | rfl | assumption | (simp only [*]; done)) zqi8 (by first | exact zqn | exact zqm.2.2.1.2.1 | exact zqm.2.2.1.2.2 | exact zqm.2.2.1.1 | exact rfl) ?_
    refine gp_icc (t := 166) dX9_item_64 (by decide) c2_ge (fun h1 => ?_) (fun h1 => ?_)
    · exact absurd h1 hc1
    · have h1' := Int32.not_le.mp h1
      refine gp_iload_n dX9_item_67 rfl ?_
      refine gp_ifc (t := 121) dX9_item_68 (by decide) c1_le (fun h2 => ?_) (fun h2 => ?_)
      · exact absurd h2 (nI_nle (by omega) (by omega))
      · have h2' := Int32.not_le.mp h2
        refine gp_aload_n dX9_item_71 rfl ?_
        refine gp_giv dX9_item_72 mf_9_176 (by decide) (by first | rfl | assumption | (simp only [*]; done)) (by first | exact zqn | exact zqm.2.2.1.2.1 | exact zqm.2.2.1.2.2 | exact zqm.2.2.1.1 | exact rfl) ?_
        refine gp_aload_n dX9_item_75 rfl ?_
        refine gp_giv dX9_item_76 mf_9_179 (by decide) (by first | rfl | assumption | (simp only [*]; done)) (by first | exact zqn | exact zqm.2.2.1.2.1 | exact zqm.2.2.1.2.2 | exact zqm.2.2.1.1 | exact rfl) ?_
        refine gp_icc (t := 102) dX9_item_79 (by decide) c2_ge (fun h3 => ?_) (fun h3 => ?_)
        · have h3' := Int32.not_lt.mpr h3
          refine gp_aload_n dX9_item_102 rfl ?_
          refine gp_aload_n dX9_item_103 rfl ?_
          refine gp_giv dX9_item_104 mf_9_176 (by decide) (by first | rfl | assumption | (simp only [*]; done)) (by first | exact zqn | exact zqm.2.2.1.2.1 | exact zqm.2.2.1.2.2 | exact zqm.2.2.1.1 | exact rfl) ?_
          refine gp_call (kind := 1) (args := [.ref _, .int _]) (rest := _) dX9_item_107 (Or.inr (Or.inl ⟨rfl, rfl⟩)) mk_9_192 (by decide) me_155 rfl rfl rfl rfl rfl (mm_rc_of (by first | rfl | assumption | (simp only [*]; done))) (ok_wrong _ _ _ _) rfl ?_
          refine gp_zret dX9_item_110 rfl (by first | exact Or.inl rfl | exact Or.inr rfl | assumption) ?_
          (refine he q _ ?_ (zqm.1.u (by decide) rfl) ((mm_u_k _ _ _ (by decide)).trans zqm.2.1) (mm_u_s _ _ _ _)
           rw [← hR]
           exact y_ns_b (by first | assumption | (rw [zqo (by assumption)]; decide)))
        · have h3' := Int32.not_le.mp h3
          refine gp_aload_n dX9_item_82 rfl ?_
          refine gp_gr dX9_item_83 mf_9_68 rfl (by first | rfl | assumption | (simp only [*]; done)) (by first | rfl | assumption | (simp only [*]; done)) ?_
          refine gp_aload_n dX9_item_86 rfl ?_
          refine gp_giv dX9_item_87 mf_9_182 (by decide) (by first | rfl | assumption | (simp only [*]; done)) (by first | exact zqn | exact zqm.2.2.1.2.1 | exact zqm.2.2.1.2.2 | exact zqm.2.2.1.1 | exact rfl) ?_
          refine gp_aload_n dX9_item_90 rfl ?_
          refine gp_giv dX9_item_91 mf_9_176 (by decide) (by first | rfl | assumption | (simp only [*]; done)) (by first | exact zqn | exact zqm.2.2.1.2.1 | exact zqm.2.2.1.2.2 | exact zqm.2.2.1.1 | exact rfl) ?_
          refine gp_pu (st' := .int _ :: _) dX9_item_94 rfl ?_
          refine gp_lal dX9_item_95 (by first | rfl | assumption | (simp only [*]; done)) (tx_i htx (zqp h3) rfl rfl).1 ?_
          refine gp_pu (st' := .int _ :: _) dX9_item_96 rfl ?_
          rw [(tx_i htx (zqp h3) rfl rfl).2]
          refine gp_pu (st' := .int (32) :: _) dX9_item_97 rfl ?_
          refine gp_icc (t := 111) dX9_item_99 (by decide) c2_eq (fun h4 => ?_) (fun h4 => ?_)
          · refine gp_aload_n dX9_item_111 rfl ?_
            refine gp_pu dX9_item_112 rfl ?_
            refine gp_giv dX9_item_113 mf_9_176 (by decide) (by first | rfl | assumption | (simp only [*]; done)) (by first | exact zqn | exact zqm.2.2.1.2.1 | exact zqm.2.2.1.2.2 | exact zqm.2.2.1.1 | exact rfl) ?_
            refine gp_pu (st' := .int (1) :: _) dX9_item_116 rfl ?_
            refine gp_pu (st' := .int _ :: _) dX9_item_117 rfl ?_
            refine gp_pi dX9_item_118 mf_9_176 rfl rfl (by first | rfl | assumption | (simp only [*]; done)) ?_
            (rw [nI_1]
             refine dn_it121 d htx v hw (by omega) (zqp h3) h4 zqm.up hR he (fun K1 a1 a2 => ?_)
             exact ih (i + 1) _ _ K1 _ (by omega) (by omega) (y_nv_E htx.2.2.2 3 _ _ (zqp h3)) a1 a2 he hk)
          · refine gp_aload_n dX9_item_102 rfl ?_
            refine gp_aload_n dX9_item_103 rfl ?_
            refine gp_giv dX9_item_104 mf_9_176 (by decide) (by first | rfl | assumption | (simp only [*]; done)) (by first | exact zqn | exact zqm.2.2.1.2.1 | exact zqm.2.2.1.2.2 | exact zqm.2.2.1.1 | exact rfl) ?_
            refine gp_call (kind := 1) (args := [.ref _, .int _]) (rest := _) dX9_item_107 (Or.inr (Or.inl ⟨rfl, rfl⟩)) mk_9_192 (by decide) me_155 rfl rfl rfl rfl rfl (mm_rc_of (by first | rfl | assumption | (simp only [*]; done))) (ok_wrong _ _ _ _) rfl ?_
            refine gp_zret dX9_item_110 rfl (by first | exact Or.inl rfl | exact Or.inr rfl | assumption) ?_
            (refine he q _ ?_ (zqm.1.u (by decide) rfl) ((mm_u_k _ _ _ (by decide)).trans zqm.2.1) (mm_u_s _ _ _ _)
             rw [← hR]
             exact y_ns_b (by first | assumption | (rw [zqo (by assumption)]; decide)))
end P98wb
