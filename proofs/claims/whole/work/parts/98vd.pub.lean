/-! PUBLIC METHODS: field: the class reads items -/
section P98vd
variable {I C J K V : pI} {L : pL} {N S : Nat} {t : Nat → Int32} {z E w : Nat} {f : Nat → Int32}

theorem sy_n0 : ∀ w, w < 8 → ∀ j, j < (mm_sy w).length → ¬ (mm_sy w).getD j 0 = 0 := by decide +kernel
theorem y_W_E {p w : Nat} (ht : ∀ p, E ≤ p → t p = 0) (h : y_W t p w) (hw : w < 8) : p + (mm_sy w).length ≤ E := by
  have h2 := (sy_len w hw).1
  have e := y_lk_j (t := t) (mm_sy w) p ((mm_sy w).length - 1) (by rw [show y_lk t (mm_sy w) p = _ from h]; omega)
  by_cases q : p + (mm_sy w).length ≤ E
  · exact q
  · rw [ht _ (by omega)] at e
    exact absurd e.symm (sy_n0 w hw _ (by omega))
theorem y_cn_b (w : Nat) : 1 ≤ y_cn w ∧ y_cn w ≤ 3 := by
  unfold y_cn
  split
  · omega
  · split <;> omega
theorem y_wcase (t : Nat → Int32) (p : Nat) : (∀ w, w < 8 → ¬ y_W t p w) ∨ ∃ w, w < 8 ∧ y_W t p w := by
  by_cases h : ∃ w, w < 8 ∧ y_W t p w
  · exact Or.inr h
  · exact Or.inl fun w hw q => h ⟨w, hw, q⟩
/-- numbers that were read may be -/
theorem y_ns_n {E : Nat} (ht : ∀ p, E ≤ p → t p = 0) {q q' : Nat} {f' : Nat → Int32} (hq : q ≤ E) (h : y_ns t (y_lo w) (y_hi V w) (y_cn w) 0 q y_g0 = .inr (q', f')) : nOf V w f' ∧ q + 2 ≤ q' ∧ q' ≤ E := by
  have e := y_ns_q ht (lo := y_lo w) (hi := y_hi V w) (y_cn w) 0 q y_g0 hq
  rw [h] at e
  obtain ⟨e1, e2, e3, e4⟩ := e
  have := (y_cn_b w).1
  have e1 : q + 2 * y_cn w ≤ q' := e1
  exact ⟨fun j hj => e4 j (Nat.zero_le _) (by omega), by omega, e2⟩
/-- what an item leaves -/
theorem y_im_q {p : Nat} (ht : ∀ p, E ≤ p → t p = 0) (v : vN V N S) (hp : p ≤ E) : oIm (y_im t V p) (fun e => e ≤ E + 5) (fun q V' => p + 2 ≤ q ∧ q ≤ E ∧ (∃ N' S', vN V' N' S') ∧ (∀ k j, ¬ fK8 k j → V' k j = V k j) ∧ V 108 0 ≤ V' 108 0) := by
  rcases y_wcase t p with h | ⟨w, hw, h⟩
  · rw [y_im_n h]
    have := y_mx_le (t := t) p 8 (Nat.le_refl 8)
    show p + y_mx t p 8 ≤ E + 5
    omega
  · have hE := y_W_E ht h hw
    by_cases hfu : y_fu V w
    · rw [y_im_f h hw hfu]
      show p ≤ E + 5
      omega
    · cases hR : y_ns t (y_lo w) (y_hi V w) (y_cn w) 0 (p + (mm_sy w).length) y_g0 with
      | inl e =>
        rw [y_im_e h hw hfu hR]
        have e1 := y_ns_q ht (lo := y_lo w) (hi := y_hi V w) (y_cn w) 0 (p + (mm_sy w).length) y_g0 hE
        rw [hR] at e1
        have e1 : e ≤ E := e1
        show e ≤ E + 5
        omega
      | inr r =>
        obtain ⟨q, f'⟩ := r
        rw [y_im_k h hw hfu hR]
        obtain ⟨a, b, c⟩ := y_ns_n ht hE hR
        exact ⟨by omega, c, y_ef_v v hw hfu a, fun k j hk => y_ef_o v hw hfu a v.2.2.1 v.2.2.2.1 hk, y_ef_m v hw hfu⟩
/-- the class at place p, the field V read by now -/
def cst (I : pI) (z : Nat) (t : Nat → Int32) (E : Nat) (L : pL) (V : pI) (p : Nat) (J : pI) : Prop := sc I J ∧ txC z t E L J ∧ rF 21 J V ∧ J 65 1 = nI p
theorem scr_65 {k j : Nat} (h : scr k j = false) : k ≠ 65 ∧ k ≠ 66 ∧ (k < 21 ∨ 40 < k) := by
  refine ⟨fun q => ?_, fun q => ?_, ?_⟩
  · rw [q] at h; cases h
  · rw [q] at h; cases h
  · by_cases q : k < 21 ∨ 40 < k
    · exact q
    · have h1 : Nat.ble 21 k = true := Nat.ble_eq_true_of_le (by omega)
      have h2 : Nat.ble k 40 = true := Nat.ble_eq_true_of_le (by omega)
      unfold scr at h
      rw [h1, h2] at h
      simp at h
theorem sc.o65 (h : sc I J) (e : ∀ c, c ≠ 65 → c ≠ 66 → (c < 21 ∨ 40 < c) → K c = J c) : sc I K := h.of fun k j q => by
  obtain ⟨a, b, c⟩ := scr_65 q
  rw [e k a b c]
theorem rF.o65 (h : rF 21 J V) (e : ∀ c, c ≠ 65 → c ≠ 66 → K c = J c) : rF 21 K V := h.cg (fun k a b j => by rw [e k (by omega) (by omega)]) (fun _ _ _ => rfl)
theorem cst.wr {p : Nat} (h : cst I z t E L V p J) (hz : 76 ≤ z) (e : ∀ c, c ≠ 65 → c ≠ 66 → K c = J c) : sc I K ∧ txC z t E L K ∧ rF 21 K V := ⟨h.1.o65 fun c a b _ => e c a b, h.2.1.cg fun j => by rw [e z (by omega) (by omega)], h.2.2.1.o65 e⟩

set_option maxHeartbeats 400000 in
theorem dn_ri54 (d : Nat) {x y : Int32} (hx : J 65 2 = x) (hne : ¬ x = -1) {Q : Option Value → mm_M → Prop} (hq : Q none (mm_sh, mm_R, J, L)) : gP mm_cs0 d 5 false none cX5_readItem 54 [some (.ref 65), some (.ref z), some (.ref 21), some (.int (nI w)), some (.int (nI (y_cn w))), some (.int y)] [] (mm_sh, mm_R, J, L) Q := by
  refine gp_iload dX5_readItem_54 rfl ?_
  refine gp_iload dX5_readItem_56 rfl ?_
  refine gp_icc (t := 95) dX5_readItem_58 (by decide) c2_ge (fun h1 => ?_) (fun h1 => ?_)
  · have h1' := Int32.not_lt.mpr h1
    refine gp_aload_n dX5_readItem_95 rfl ?_
    refine gp_giv dX5_readItem_96 mf_5_15 (by decide) (by first | rfl | assumption | (simp only [*]; done)) (by first | exact hx | exact rfl) ?_
    refine gp_pu (st' := .int (-1) :: _) dX5_readItem_99 rfl ?_
    refine gp_icc (t := 109) dX5_readItem_100 (by decide) c2_ne (fun h2 => ?_) (fun h2 => ?_)
    · refine gp_vret dX5_readItem_109 rfl ?_
      exact hq
    · exact absurd (Classical.not_not.mp h2) hne
  · have h1' := Int32.not_le.mp h1
    refine gp_aload_n dX5_readItem_61 rfl ?_
    refine gp_giv dX5_readItem_62 mf_5_15 (by decide) (by first | rfl | assumption | (simp only [*]; done)) (by first | exact hx | exact rfl) ?_
    refine gp_pu (st' := .int (-1) :: _) dX5_readItem_65 rfl ?_
    refine gp_icc (t := 95) dX5_readItem_66 (by decide) c2_ne (fun h3 => ?_) (fun h3 => ?_)
    · refine gp_aload_n dX5_readItem_95 rfl ?_
      refine gp_giv dX5_readItem_96 mf_5_15 (by decide) (by first | rfl | assumption | (simp only [*]; done)) (by first | exact hx | exact rfl) ?_
      refine gp_pu (st' := .int (-1) :: _) dX5_readItem_99 rfl ?_
      refine gp_icc (t := 109) dX5_readItem_100 (by decide) c2_ne (fun h4 => ?_) (fun h4 => ?_)
      · refine gp_vret dX5_readItem_109 rfl ?_
        exact hq
      · exact absurd (Classical.not_not.mp h4) hne
    · exact absurd (Classical.not_not.mp h3) hne

/-- numbers read by now -/
def nst (q i : Nat) (f : Nat → Int32) (J K : pI) : Prop := (∀ c, c ≠ 65 → c ≠ 66 → K c = J c) ∧ K 65 1 = nI q ∧ K 65 2 = -1 ∧ ∀ j, j < i → K 66 j = f j
theorem nI_n1 {n : Nat} (h : n ≤ 2000) : ¬ nI n = -1 := by
  rw [ti_eq, ti_nI h, ti_n1]
  omega

set_option maxHeartbeats 400000 in
theorem lp_ri (d : Nat) (hz : 76 ≤ z) (v : vN V N S) {p : Nat} (h : cst I z t E L V p J) (hw : w < 8) (hfu : ¬ y_fu V w) {R : Nat ⊕ (Nat × (Nat → Int32))} (hno : ∀ q f, R = .inr (q, f) → nOf V w f) {Q : Option Value → mm_M → Prop} : ∀ (n i : Nat) (q : Nat) (f : Nat → Int32) (K : pI), i + n = (y_cn w) → q ≤ E → nst q i f J K → y_ns t (y_lo w) (y_hi V w) n i q f = R → (∀ e K1, R = .inl e → (∀ c, c ≠ 65 → c ≠ 66 → K1 c = J c) → K1 65 2 = nI e → Q none (mm_sh, mm_R, K1, L)) → (∀ q1 f1 K1 K2, R = .inr (q1, f1) → nst q1 (y_cn w) f1 J K1 → tlX V w f1 K1 K2 → Q none (mm_sh, mm_R, K2, L)) → gP mm_cs0 (d + 5) 5 false none cX5_readItem 54 [some (.ref 65), some (.ref z), some (.ref 21), some (.int (nI w)), some (.int (nI (y_cn w))), some (.int (nI i))] [] (mm_sh, mm_R, K, L) Q := by
  intro n
  induction n with
  | zero =>
    intro i q f K hi hq hn hR he hk
    obtain rfl : i = (y_cn w) := by omega
    have zqs := h.wr hz hn.1
    have zqt := zqs.2.1
    have zqF := zqs.2.2
    have hE := h.2.1.2.1
    have zq2 := hn.2.2.1
    have zq21 : K 21 1 = V 108 0 := zqF.1
    have zq23 : K 21 3 = V 108 1 := zqF.2.1
    have hcn := (y_cn_b w).2
    have hc1 : nI (y_cn w) ≤ nI (y_cn w) := Int32.le_refl _
    have zqj : ∀ j, j < y_cn w → K 66 j = f j := hn.2.2.2
    refine gp_iload dX5_readItem_54 rfl ?_
    refine gp_iload dX5_readItem_56 rfl ?_
    refine gp_icc (t := 95) dX5_readItem_58 (by decide) c2_ge (fun h1 => ?_) (fun h1 => ?_)
    · have h1' := Int32.not_lt.mpr h1
      (try simp only [Classical.not_not] at h1)
      refine gp_aload_n dX5_readItem_95 rfl ?_
      refine gp_giv dX5_readItem_96 mf_5_15 (by decide) (by first | rfl | assumption | (simp only [*]; done)) (by first | exact zq2 | exact rfl) ?_
      refine gp_pu (st' := .int (-1) :: _) dX5_readItem_99 rfl ?_
      refine gp_icc (t := 109) dX5_readItem_100 (by decide) c2_ne (fun h2 => ?_) (fun h2 => ?_)
      · exact absurd rfl h2
      · (try simp only [Classical.not_not] at h2)
        refine gp_aload_n dX5_readItem_103 rfl ?_
        refine gp_aload_n dX5_readItem_104 rfl ?_
        refine gp_iload_n dX5_readItem_105 rfl ?_
        refine gp_callX (kind := 1) (args := [.ref _, .ref _, .int _]) (rest := _) dX5_readItem_106 (Or.inr (Or.inl ⟨rfl, rfl⟩)) mk_5_68 (by decide) me_40 rfl rfl rfl rfl rfl (mm_rc_of (by first | rfl | assumption | (simp only [*]; done))) (ct_tell5 _ v zqF hw hfu (hno _ _ hR.symm) zqj) ?_
        intro K1 zqk1
        refine gp_vret dX5_readItem_109 rfl ?_
        exact hk _ _ _ _ hR.symm hn zqk1
    · exact absurd hc1 h1
  | succ n ih =>
    intro i q f K hi hq hn hR he hk
    have zqs := h.wr hz hn.1
    have zqt := zqs.2.1
    have zqF := zqs.2.2
    have hE := h.2.1.2.1
    have zq2 := hn.2.2.1
    have zq21 : K 21 1 = V 108 0 := zqF.1
    have zq23 : K 21 3 = V 108 1 := zqF.2.1
    have hcn := (y_cn_b w).2
    have hc1 : ¬ nI (y_cn w) ≤ nI i := nI_ge (by omega) (by omega)
    refine gp_iload dX5_readItem_54 rfl ?_
    refine gp_iload dX5_readItem_56 rfl ?_
    refine gp_icc (t := 95) dX5_readItem_58 (by decide) c2_ge (fun h1 => ?_) (fun h1 => ?_)
    · exact absurd h1 hc1
    · have h1' := Int32.not_le.mp h1
      (try simp only [Classical.not_not] at h1)
      refine gp_aload_n dX5_readItem_61 rfl ?_
      refine gp_giv dX5_readItem_62 mf_5_15 (by decide) (by first | rfl | assumption | (simp only [*]; done)) (by first | exact zq2 | exact rfl) ?_
      refine gp_pu (st' := .int (-1) :: _) dX5_readItem_65 rfl ?_
      refine gp_icc (t := 95) dX5_readItem_66 (by decide) c2_ne (fun h2 => ?_) (fun h2 => ?_)
      · exact absurd rfl h2
      · (try simp only [Classical.not_not] at h2)
        refine gp_aload_n dX5_readItem_69 rfl ?_
        refine gp_aload_n dX5_readItem_70 rfl ?_
        refine gp_iload dX5_readItem_71 rfl ?_
        refine gp_iload_n dX5_readItem_73 rfl ?_
        refine gp_iload dX5_readItem_74 rfl ?_
        refine gp_call (kind := 0) (args := [.int _, .int _]) (rest := _) dX5_readItem_76 (Or.inl ⟨rfl, rfl⟩) mk_5_56 (by decide) me_45 rfl rfl rfl rfl rfl rfl (ok_leastOf _ _ _ hw (by omega)) rfl ?_
        refine gp_aload_n dX5_readItem_79 rfl ?_
        refine gp_iload_n dX5_readItem_80 rfl ?_
        refine gp_iload dX5_readItem_81 rfl ?_
        refine gp_call (kind := 0) (args := [.ref _, .int _, .int _]) (rest := _) dX5_readItem_83 (Or.inl ⟨rfl, rfl⟩) mk_5_60 (by decide) me_46 rfl rfl rfl rfl rfl rfl (ok_mostOf _ _ zq21 zq23 hw (by omega)) rfl ?_
        refine gp_callX (kind := 1) (args := [.ref _, .ref _, .int _, .int _, .int _]) (rest := _) dX5_readItem_86 (Or.inr (Or.inl ⟨rfl, rfl⟩)) mk_5_64 (by decide) me_39 rfl rfl rfl rfl rfl (mm_rc_of rfl) (ct_readNumber _ zqt (by omega) hn.2.1 (by omega) (by omega)) ?_
        intro K1 zqk1
        refine gp_iinc (v := (1)) (ls' := [some (.ref _), some (.ref _), some (.ref _), some (.int _), some (.int _), some (.int _)]) dX5_readItem_89 rfl (by decide) rfl ?_
        refine gp_goto (t := 54) dX5_readItem_92 (by decide) ?_
        (rw [nI_1]
         obtain ⟨a1, a2 | a2 | a2⟩ := zqk1
         · rw [y_ns_b a2.1] at hR
           exact dn_ri54 _ a2.2 (nI_n1 (by omega)) (he _ _ hR.symm (fun c b1 b2 => (a1 c b1 b2).trans (hn.1 c b1 b2)) a2.2)
         · rw [y_ns_e a2.1 a2.2.1] at hR
           exact dn_ri54 _ a2.2.2 (nI_n1 (by omega)) (he _ _ hR.symm (fun c b1 b2 => (a1 c b1 b2).trans (hn.1 c b1 b2)) a2.2.2)
         · rw [y_ns_k a2.1 a2.2.1] at hR
           have hqE : q < E := by
            by_cases y : q < E
            · exact y
            · rw [zqt.2.2.2.2 q (by omega)] at a2; exact absurd a2.1 (by decide)
           refine ih (i + 1) _ _ _ (by omega) (y_nv_E zqt.2.2.2.2 3 _ _ (by omega)) ⟨fun c b1 b2 => (a1 c b1 b2).trans (hn.1 c b1 b2), a2.2.2.2.1, a2.2.2.1.trans hn.2.2.1, fun j hj => ?_⟩ hR he hk
           rw [a2.2.2.2.2 j]
           by_cases y : j = i
           · rw [y, if_pos rfl, yu_s]
           · rw [if_neg y, yu_o _ _ y]; exact hn.2.2.2 j (by omega))

set_option maxHeartbeats 400000 in
theorem ri_n (d : Nat) (hz : 76 ≤ z) (v : vN V N S) {p : Nat} (h : cst I z t E L V p J) (hw0 : J 65 2 = -1) (hp : p ≤ E) (hnw : ∀ w, w < 8 → ¬ y_W t p w) : cP (d + 7) 36 [.ref 65, .ref z, .ref 21] (mm_sh, mm_R, J, L) (pX none L (fun K => oIm (y_im t V p) (fun e => sc I K ∧ K 65 2 = nI e) (fun q V1 => cst I z t E L V1 q K ∧ K 65 2 = -1))) := by
  have hE := h.2.1.2.1
  refine cP.of_gP (d := d + 6) me_36 ⟨Nat.le_of_ble_eq_true rfl, rfl⟩ ?_
  show gP mm_cs0 _ _ _ _ _ _ [some (.ref _), some (.ref _), some (.ref _), none, none, none] [] _ _
  refine gp_aload_n dX5_readItem_0 rfl ?_
  refine gp_aload_n dX5_readItem_1 rfl ?_
  refine gp_callX (kind := 1) (args := [.ref _, .ref _]) (rest := _) dX5_readItem_2 (Or.inr (Or.inl ⟨rfl, rfl⟩)) mk_5_35 (by decide) me_37 rfl rfl rfl rfl rfl (mm_rc_of (by first | rfl | assumption | (simp only [*]; done))) (ct_readWord _ h.2.1 h.2.2.2 (by omega)) ?_
  intro K1 zqk1
  rw [zqk1, (y_wa_n hnw J).1, (y_wa_n hnw J).2]
  refine gp_istore_n (ls' := [some (.ref _), some (.ref _), some (.ref _), some (.int _), none, none]) dX5_readItem_5 rfl (Nat.le_of_ble_eq_true rfl) ?_
  refine gp_iload_n dX5_readItem_6 rfl ?_
  refine gp_pu (st' := .int (-1) :: _) dX5_readItem_7 rfl ?_
  refine gp_icc (t := 12) dX5_readItem_8 (by decide) c2_ne (fun h1 => ?_) (fun h1 => ?_)
  · exact absurd rfl h1
  · refine gp_vret dX5_readItem_11 rfl ?_
    (refine pX.mk rfl ?_
     rw [y_im_n hnw]
     exact ⟨h.1.u rfl, mm_u_s _ _ _ _⟩)

set_option maxHeartbeats 400000 in
theorem ri_f (d : Nat) (hz : 76 ≤ z) (v : vN V N S) {p : Nat} (h : cst I z t E L V p J) (hw0 : J 65 2 = -1) (hp : p ≤ E) {w : Nat} (hw : w < 8) (hW : y_W t p w) (hfu : y_fu V w) : cP (d + 7) 36 [.ref 65, .ref z, .ref 21] (mm_sh, mm_R, J, L) (pX none L (fun K => oIm (y_im t V p) (fun e => sc I K ∧ K 65 2 = nI e) (fun q V1 => cst I z t E L V1 q K ∧ K 65 2 = -1))) := by
  have hE := h.2.1.2.1
  refine cP.of_gP (d := d + 6) me_36 ⟨Nat.le_of_ble_eq_true rfl, rfl⟩ ?_
  show gP mm_cs0 _ _ _ _ _ _ [some (.ref _), some (.ref _), some (.ref _), none, none, none] [] _ _
  refine gp_aload_n dX5_readItem_0 rfl ?_
  refine gp_aload_n dX5_readItem_1 rfl ?_
  refine gp_callX (kind := 1) (args := [.ref _, .ref _]) (rest := _) dX5_readItem_2 (Or.inr (Or.inl ⟨rfl, rfl⟩)) mk_5_35 (by decide) me_37 rfl rfl rfl rfl rfl (mm_rc_of (by first | rfl | assumption | (simp only [*]; done))) (ct_readWord _ h.2.1 h.2.2.2 (by omega)) ?_
  intro K1 zqk1
  rw [zqk1, (y_wa_w hW hw J).1, (y_wa_w hW hw J).2]
  refine gp_istore_n (ls' := [some (.ref _), some (.ref _), some (.ref _), some (.int _), none, none]) dX5_readItem_5 rfl (Nat.le_of_ble_eq_true rfl) ?_
  refine gp_iload_n dX5_readItem_6 rfl ?_
  refine gp_pu (st' := .int (-1) :: _) dX5_readItem_7 rfl ?_
  refine gp_icc (t := 12) dX5_readItem_8 (by decide) c2_ne (fun h1 => ?_) (fun h1 => ?_)
  · refine gp_aload_n dX5_readItem_12 rfl ?_
    refine gp_iload_n dX5_readItem_13 rfl ?_
    refine gp_call (kind := 0) (args := [.ref _, .int _]) (rest := _) dX5_readItem_14 (Or.inl ⟨rfl, rfl⟩) mk_5_39 (by decide) me_42 rfl rfl rfl rfl rfl rfl (ok_hasRoom _ L v h.2.2.1.1 h.2.2.1.2.1 hw) rfl ?_
    refine gp_ifc (t := 29) dX5_readItem_17 (by decide) c1_ne (fun h2 => ?_) (fun h2 => ?_)
    · exact absurd (if_pos hfu) h2
    · refine gp_aload_n dX5_readItem_20 rfl ?_
      refine gp_aload_n dX5_readItem_21 rfl ?_
      refine gp_giv dX5_readItem_22 mf_5_19 (by decide) (by first | rfl | assumption | (simp only [*]; done)) (by first | exact h.2.2.2 | exact rfl) ?_
      refine gp_pi dX5_readItem_25 mf_5_15 rfl rfl (by first | rfl | assumption | (simp only [*]; done)) ?_
      refine gp_vret dX5_readItem_28 rfl ?_
      (refine pX.mk rfl ?_
       rw [y_im_f hW hw hfu]
       exact ⟨h.1.u rfl, mm_u_s _ _ _ _⟩)
  · exact absurd (Classical.not_not.mp h1) (nI_n1 (by omega))

set_option maxHeartbeats 400000 in
theorem ri_k (d : Nat) (hz : 76 ≤ z) (v : vN V N S) {p : Nat} (h : cst I z t E L V p J) (hw0 : J 65 2 = -1) (hp : p ≤ E) {w : Nat} (hw : w < 8) (hW : y_W t p w) (hfu : ¬ y_fu V w) : cP (d + 7) 36 [.ref 65, .ref z, .ref 21] (mm_sh, mm_R, J, L) (pX none L (fun K => oIm (y_im t V p) (fun e => sc I K ∧ K 65 2 = nI e) (fun q V1 => cst I z t E L V1 q K ∧ K 65 2 = -1))) := by
  have hE := h.2.1.2.1
  refine cP.of_gP (d := d + 6) me_36 ⟨Nat.le_of_ble_eq_true rfl, rfl⟩ ?_
  show gP mm_cs0 _ _ _ _ _ _ [some (.ref _), some (.ref _), some (.ref _), none, none, none] [] _ _
  refine gp_aload_n dX5_readItem_0 rfl ?_
  refine gp_aload_n dX5_readItem_1 rfl ?_
  refine gp_callX (kind := 1) (args := [.ref _, .ref _]) (rest := _) dX5_readItem_2 (Or.inr (Or.inl ⟨rfl, rfl⟩)) mk_5_35 (by decide) me_37 rfl rfl rfl rfl rfl (mm_rc_of (by first | rfl | assumption | (simp only [*]; done))) (ct_readWord _ h.2.1 h.2.2.2 (by omega)) ?_
  intro K1 zqk1
  rw [zqk1, (y_wa_w hW hw J).1, (y_wa_w hW hw J).2]
  refine gp_istore_n (ls' := [some (.ref _), some (.ref _), some (.ref _), some (.int _), none, none]) dX5_readItem_5 rfl (Nat.le_of_ble_eq_true rfl) ?_
  refine gp_iload_n dX5_readItem_6 rfl ?_
  refine gp_pu (st' := .int (-1) :: _) dX5_readItem_7 rfl ?_
  refine gp_icc (t := 12) dX5_readItem_8 (by decide) c2_ne (fun h1 => ?_) (fun h1 => ?_)
  · refine gp_aload_n dX5_readItem_12 rfl ?_
    refine gp_iload_n dX5_readItem_13 rfl ?_
    refine gp_call (kind := 0) (args := [.ref _, .int _]) (rest := _) dX5_readItem_14 (Or.inl ⟨rfl, rfl⟩) mk_5_39 (by decide) me_42 rfl rfl rfl rfl rfl rfl (ok_hasRoom _ L v h.2.2.1.1 h.2.2.1.2.1 hw) rfl ?_
    refine gp_ifc (t := 29) dX5_readItem_17 (by decide) c1_ne (fun h2 => ?_) (fun h2 => ?_)
    · refine gp_aload_n dX5_readItem_29 rfl ?_
      refine gp_pu dX5_readItem_30 rfl ?_
      refine gp_giv dX5_readItem_31 mf_5_19 (by decide) (by first | rfl | assumption | (simp only [*]; done)) (by first | exact h.2.2.2 | exact rfl) ?_
      refine gp_iload_n dX5_readItem_34 rfl ?_
      refine gp_call (kind := 0) (args := [.int _]) (rest := _) dX5_readItem_35 (Or.inl ⟨rfl, rfl⟩) mk_5_43 (by decide) me_43 rfl rfl rfl rfl rfl rfl (ok_wordOf _ _ hw) rfl ?_
      refine gp_bi (kind := 1) (args := [.ref _]) (rest := _) dX5_readItem_38 (Or.inr (Or.inl ⟨rfl, rfl⟩)) mk_5_47 (by decide) rfl rfl rfl rfl (bi_len (by omega) hw) rfl ?_
      refine gp_pu (st' := .int _ :: _) dX5_readItem_41 rfl ?_
      refine gp_pi dX5_readItem_42 mf_5_19 rfl rfl (by first | rfl | assumption | (simp only [*]; done)) ?_
      refine gp_iload_n dX5_readItem_45 rfl ?_
      refine gp_call (kind := 0) (args := [.int _]) (rest := _) dX5_readItem_46 (Or.inl ⟨rfl, rfl⟩) mk_5_53 (by decide) me_44 rfl rfl rfl rfl rfl rfl (ok_numbersOf _ _ hw) rfl ?_
      refine gp_istore (ls' := [some (.ref _), some (.ref _), some (.ref _), some (.int _), some (.int _), none]) dX5_readItem_49 rfl (Nat.le_of_ble_eq_true rfl) ?_
      refine gp_pu (st' := .int (0) :: _) dX5_readItem_51 rfl ?_
      refine gp_istore (ls' := [some (.ref _), some (.ref _), some (.ref _), some (.int _), some (.int _), some (.int _)]) dX5_readItem_52 rfl (Nat.le_of_ble_eq_true rfl) ?_
      (rw [nI_add]
       have ht := h.2.1.2.2.2.2
       have hE2 := y_W_E ht hW hw
       refine lp_ri (d + 1) hz v h hw hfu (R := y_ns t (y_lo w) (y_hi V w) (y_cn w) 0 (p + (mm_sy w).length) y_g0) (fun q f hR => (y_ns_n ht hE2 hR).1) (y_cn w) 0 (p + (mm_sy w).length) y_g0 _ (Nat.zero_add _) hE2 ⟨fun c b1 _ => mm_u_k _ _ _ b1, mm_u_s _ _ _ _, (mm_u_j _ _ (by decide)).trans hw0, fun j hj => absurd hj (Nat.not_lt_zero j)⟩ rfl (fun e K1 hR h1 h2 => ?_) (fun q1 f1 K1 K2 hR h1 h2 => ?_)
       · refine pX.mk rfl ?_
         rw [y_im_e hW hw hfu hR]
         exact ⟨(h.wr hz h1).1, h2⟩
       · refine pX.mk rfl ?_
         rw [y_im_k hW hw hfu hR]
         obtain ⟨b1, b2, b3⟩ := h.wr hz h1.1
         refine ⟨⟨b1.o65 fun c _ _ b4 => h2.2 c b4, b2.cg fun j => by rw [h2.2 z (by omega)], h2.1, ?_⟩, ?_⟩
         · rw [h2.2 65 (by decide)]; exact h1.2.1
         · rw [h2.2 65 (by decide)]; exact h1.2.2.1)
    · exact absurd ((if_neg hfu).symm.trans (Classical.not_not.mp h2)) (by decide)
  · exact absurd (Classical.not_not.mp h1) (nI_n1 (by omega))

theorem ct_readItem (d : Nat) (hz : 76 ≤ z) (v : vN V N S) {p : Nat} (h : cst I z t E L V p J) (hw0 : J 65 2 = -1) (hp : p ≤ E) : cP (d + 7) 36 [.ref 65, .ref z, .ref 21] (mm_sh, mm_R, J, L) (pX none L (fun K => oIm (y_im t V p) (fun e => sc I K ∧ K 65 2 = nI e) (fun q V1 => cst I z t E L V1 q K ∧ K 65 2 = -1))) := by
  rcases y_wcase t p with hn | ⟨w, hw, hW⟩
  · exact ri_n d hz v h hw0 hp hn
  · by_cases hfu : y_fu V w
    · exact ri_f d hz v h hw0 hp hw hW hfu
    · exact ri_k d hz v h hw0 hp hw hW hfu
end P98vd
