/-! PUBLIC METHODS: field: the reference, an item -/
section P98wc
variable {I C J K V : pI} {L : pL} {N S : Nat} {t : Nat → Int32} {z E w : Nat} {f : Nat → Int32} {T : Nat → Int32}

set_option maxHeartbeats 400000 in
theorem dn_it0 (d : Nat) (htx : txM z t E L) (hs : mR V C J) {p : Nat} (hm : mst z E p J) (hpE : p ≤ E) (hW : wOf J) {Q : Option Value → mm_M → Prop} (h34 : ((y_lk t (mm_sy 0) p = (mm_sy 0).length ∧ V 108 0 = 8) ∨ (y_lk t (mm_sy 1) p = (mm_sy 1).length ∧ V 108 1 = 8)) → gP mm_cs0 (d + 2) 9 false (some .boolean) cX9_item 34 [some (.ref 108), none, none, none] [] (mm_sh, mm_R, J, L) Q) (h43 : ¬ ((y_lk t (mm_sy 0) p = (mm_sy 0).length ∧ V 108 0 = 8) ∨ (y_lk t (mm_sy 1) p = (mm_sy 1).length ∧ V 108 1 = 8)) → gP mm_cs0 (d + 2) 9 false (some .boolean) cX9_item 43 [some (.ref 108), none, none, none] [] (mm_sh, mm_R, J, L) Q) : gP mm_cs0 (d + 2) 9 false (some .boolean) cX9_item 0 [some (.ref 108), none, none, none] [] (mm_sh, mm_R, J, L) Q := by
  refine gp_aload_n dX9_item_0 rfl ?_
  refine gp_pu (st' := .int (0) :: _) dX9_item_1 rfl ?_
  refine gp_callX (kind := 1) (args := [.ref _, .int _]) (rest := _) dX9_item_2 (Or.inr (Or.inl ⟨rfl, rfl⟩)) mk_9_195 (by decide) me_156 rfl rfl rfl rfl rfl (mm_rc_of (by first | rfl | assumption | (simp only [*]; done))) (mt_stands0 _ htx hm hpE hW) ?_
  intro K1 zqk1
  rw [zqk1]
  refine gp_ifc (t := 17) dX9_item_5 (by decide) c1_eq (fun h1 => ?_) (fun h1 => ?_)
  · (try simp only [Classical.not_not] at h1)
    refine gp_aload_n dX9_item_17 rfl ?_
    refine gp_pu (st' := .int (1) :: _) dX9_item_18 rfl ?_
    refine gp_callX (kind := 1) (args := [.ref _, .int _]) (rest := _) dX9_item_19 (Or.inr (Or.inl ⟨rfl, rfl⟩)) mk_9_195 (by decide) me_156 rfl rfl rfl rfl rfl (mm_rc_of (by first | rfl | assumption | (simp only [*]; done))) (mt_stands1 _ htx hm hpE hW) ?_
    intro K2 zqk2
    rw [zqk2]
    refine gp_ifc (t := 43) dX9_item_22 (by decide) c1_eq (fun h2 => ?_) (fun h2 => ?_)
    · (try simp only [Classical.not_not] at h2)
      exact h43 (by rintro (⟨a, b⟩ | ⟨a, b⟩) <;> first | exact bi_0.mp (by assumption) a | exact absurd b (by assumption))
    · (try simp only [Classical.not_not] at h2)
      refine gp_aload_n dX9_item_25 rfl ?_
      refine gp_giv dX9_item_26 mf_9_120 (by decide) (by first | rfl | assumption | (simp only [*]; done)) (by first | exact (hs.r (by decide)) | exact rfl) ?_
      refine gp_pu (st' := .int (8) :: _) dX9_item_29 rfl ?_
      refine gp_icc (t := 43) dX9_item_31 (by decide) c2_ne (fun h3 => ?_) (fun h3 => ?_)
      · (try simp only [Classical.not_not] at h3)
        exact h43 (by rintro (⟨a, b⟩ | ⟨a, b⟩) <;> first | exact bi_0.mp (by assumption) a | exact absurd b (by assumption))
      · (try simp only [Classical.not_not] at h3)
        first | exact h34 (Or.inl ⟨bi_n0 h1, h4⟩) | exact h34 (Or.inr ⟨bi_n0 h2, h3⟩) | exact h34 (Or.inr ⟨bi_n0 h5, h6⟩)
  · (try simp only [Classical.not_not] at h1)
    refine gp_aload_n dX9_item_8 rfl ?_
    refine gp_giv dX9_item_9 mf_9_117 (by decide) (by first | rfl | assumption | (simp only [*]; done)) (by first | exact (hs.r (by decide)) | exact rfl) ?_
    refine gp_pu (st' := .int (8) :: _) dX9_item_12 rfl ?_
    refine gp_icc (t := 34) dX9_item_14 (by decide) c2_eq (fun h4 => ?_) (fun h4 => ?_)
    · (try simp only [Classical.not_not] at h4)
      first | exact h34 (Or.inl ⟨bi_n0 h1, h4⟩) | exact h34 (Or.inr ⟨bi_n0 h2, h3⟩) | exact h34 (Or.inr ⟨bi_n0 h5, h6⟩)
    · (try simp only [Classical.not_not] at h4)
      refine gp_aload_n dX9_item_17 rfl ?_
      refine gp_pu (st' := .int (1) :: _) dX9_item_18 rfl ?_
      refine gp_callX (kind := 1) (args := [.ref _, .int _]) (rest := _) dX9_item_19 (Or.inr (Or.inl ⟨rfl, rfl⟩)) mk_9_195 (by decide) me_156 rfl rfl rfl rfl rfl (mm_rc_of (by first | rfl | assumption | (simp only [*]; done))) (mt_stands1 _ htx hm hpE hW) ?_
      intro K2 zqk2
      rw [zqk2]
      refine gp_ifc (t := 43) dX9_item_22 (by decide) c1_eq (fun h5 => ?_) (fun h5 => ?_)
      · (try simp only [Classical.not_not] at h5)
        exact h43 (by rintro (⟨a, b⟩ | ⟨a, b⟩) <;> first | exact bi_0.mp (by assumption) a | exact absurd b (by assumption))
      · (try simp only [Classical.not_not] at h5)
        refine gp_aload_n dX9_item_25 rfl ?_
        refine gp_giv dX9_item_26 mf_9_120 (by decide) (by first | rfl | assumption | (simp only [*]; done)) (by first | exact (hs.r (by decide)) | exact rfl) ?_
        refine gp_pu (st' := .int (8) :: _) dX9_item_29 rfl ?_
        refine gp_icc (t := 43) dX9_item_31 (by decide) c2_ne (fun h6 => ?_) (fun h6 => ?_)
        · (try simp only [Classical.not_not] at h6)
          exact h43 (by rintro (⟨a, b⟩ | ⟨a, b⟩) <;> first | exact bi_0.mp (by assumption) a | exact absurd b (by assumption))
        · (try simp only [Classical.not_not] at h6)
          first | exact h34 (Or.inl ⟨bi_n0 h1, h4⟩) | exact h34 (Or.inr ⟨bi_n0 h2, h3⟩) | exact h34 (Or.inr ⟨bi_n0 h5, h6⟩)

def itA (R : Nat ⊕ (Nat × pI)) : Int32 := match R with
  | .inl _ => 0
  | .inr _ => 1
def itX (C : pI) (T : Nat → Int32) (z E : Nat) (V : pI) (R : Nat ⊕ (Nat × pI)) (K : pI) : Prop := oIm R (fun e => mR V C K ∧ K 127 = T ∧ K 108 32 = nI e) (fun q V1 => mR V1 C K ∧ K 127 = T ∧ mst z E q K)
theorem itQ {R : Nat ⊕ (Nat × pI)} {e : Nat} {K : pI} {L : pL} (h : R = .inl e) (h1 : mR V C K) (h2 : K 127 = T) (h3 : K 108 32 = nI e) : pX (some (.int (itA R))) L (itX C T z E V R) (some (.int 0)) (mm_sh, mm_R, K, L) := by
  subst h
  exact pX.mk rfl ⟨h1, h2, h3⟩
theorem itK {R : Nat ⊕ (Nat × pI)} {q : Nat} {V1 K : pI} {L : pL} (h : R = .inr (q, V1)) (h1 : mR V1 C K) (h2 : K 127 = T) (h3 : mst z E q K) : pX (some (.int (itA R))) L (itX C T z E V R) (some (.int 1)) (mm_sh, mm_R, K, L) := by
  subst h
  exact pX.mk rfl ⟨h1, h2, h3⟩

set_option maxHeartbeats 400000 in
theorem dn_it47n (d : Nat) {Q : Option Value → mm_M → Prop} (hq : Q (some (.int 0)) (mm_sh, mm_R, J, L)) : gP mm_cs0 (d + 2) 9 false (some .boolean) cX9_item 47 [some (.ref 108), none, none, none] [.int (-1)] (mm_sh, mm_R, J, L) Q := by
  refine gp_istore_n (ls' := [some (.ref _), some (.int _), none, none]) dX9_item_47 rfl (Nat.le_of_ble_eq_true rfl) ?_
  refine gp_iload_n dX9_item_48 rfl ?_
  refine gp_pu (st' := .int (-1) :: _) dX9_item_49 rfl ?_
  refine gp_icc (t := 55) dX9_item_50 (by decide) c2_ne (fun h1 => ?_) (fun h1 => ?_)
  · exact absurd rfl h1
  · refine gp_pu (st' := .int (0) :: _) dX9_item_53 rfl ?_
    refine gp_zret dX9_item_54 rfl (by first | exact Or.inl rfl | exact Or.inr rfl | assumption) ?_
    exact hq

set_option maxHeartbeats 400000 in
theorem dn_it47k (d : Nat) (htx : txM z t E L) (v : vN V N S) (hwn : wnV V) (hw : w < 8) {q p : Nat} (hqE : q + 1 ≤ E) (h32 : t q = 32) (hs : mR V C J) (hm : mst z E p J) (hT : J 127 = T) {R : Nat ⊕ (Nat × (Nat → Int32))} (hR : y_ns t (y_lo w) (y_hi V w) (y_cn w) 0 q y_g0 = R) {Q : Option Value → mm_M → Prop} (he : ∀ e K1, R = .inl e → mR V C K1 → K1 127 = T → K1 108 32 = nI e → Q (some (.int 0)) (mm_sh, mm_R, K1, L)) (hk : ∀ q1 f1 K1 v3, R = .inr (q1, f1) → mit V C T z E q1 (y_cn w) f1 K1 → gP mm_cs0 (d + 2) 9 false (some .boolean) cX9_item 166 [some (.ref 108), some (.int (nI w)), some (.int (nI (y_cn w))), v3] [] (mm_sh, mm_R, K1, L) Q) : gP mm_cs0 (d + 2) 9 false (some .boolean) cX9_item 47 [some (.ref 108), none, none, none] [.int (nI w)] (mm_sh, mm_R, mm_u J 108 29 (nI (q + 1)), L) Q := by
  have hE := htx.2.1
  have hcn := y_cn_b w
  have zqn : mm_u J 108 29 (nI (q + 1)) 125 (nI w).toNatClampNeg = nI (y_cn w) := by rw [mm_u_o _ _ _ _ (by decide)]; exact hwn.n hs hw
  have zqi8 : mm_in (nI w) 8 = true := mm_in_8.mpr ⟨nI_pos' (by omega), nI_lt (b := 8) hw (by omega)⟩
  have hc1 : ¬ nI (y_cn w) ≤ (0 : Int32) := nI_nle (by omega) (by omega)
  refine gp_istore_n (ls' := [some (.ref _), some (.int _), none, none]) dX9_item_47 rfl (Nat.le_of_ble_eq_true rfl) ?_
  refine gp_iload_n dX9_item_48 rfl ?_
  refine gp_pu (st' := .int (-1) :: _) dX9_item_49 rfl ?_
  refine gp_icc (t := 55) dX9_item_50 (by decide) c2_ne (fun h1 => ?_) (fun h1 => ?_)
  · refine gp_pu (st' := .int (0) :: _) dX9_item_55 rfl ?_
    refine gp_istore_n (ls' := [some (.ref _), some (.int _), some (.int _), none]) dX9_item_56 rfl (Nat.le_of_ble_eq_true rfl) ?_
    refine gp_iload_n dX9_item_57 rfl ?_
    refine gp_aload_n dX9_item_58 rfl ?_
    refine gp_gr dX9_item_59 mf_9_78 rfl (by first | rfl | assumption | (simp only [*]; done)) (by first | rfl | assumption | (simp only [*]; done)) ?_
    refine gp_iload_n dX9_item_62 rfl ?_
    refine gp_ialv dX9_item_63 rfl (by first | rfl | assumption | (simp only [*]; done)) zqi8 (by first | exact zqn | exact rfl) ?_
    refine gp_icc (t := 166) dX9_item_64 (by decide) c2_ge (fun h2 => ?_) (fun h2 => ?_)
    · exact absurd h2 hc1
    · have h2' := Int32.not_le.mp h2
      refine gp_iload_n dX9_item_67 rfl ?_
      refine gp_ifc (t := 121) dX9_item_68 (by decide) c1_le (fun h3 => ?_) (fun h3 => ?_)
      · have h3' := Int32.not_lt.mpr h3
        (refine dn_it121 d htx v hw (i := 0) (f := y_g0) (by omega) hqE h32 ⟨hs.u (by decide) rfl, (mm_u_k _ _ _ (by decide)).trans hT, ⟨(mm_u_j _ _ (by decide)).trans hm.1, mm_u_s _ _ _ _, (mm_u_j _ _ (by decide)).trans hm.2.2⟩, fun j hj => absurd hj (Nat.not_lt_zero j)⟩ (n := y_cn w - 1) (by rw [Nat.sub_add_cancel hcn.1]; exact hR) he (fun K1 a1 a2 => ?_)
         exact lp_it57 d htx v hwn hw (y_cn w - 1) 1 _ _ K1 _ (by omega) (Nat.le_refl 1) (y_nv_E htx.2.2.2 3 _ _ hqE) a1 a2 he hk)
      · exact absurd (Int32.le_refl 0) h3
  · exact absurd (Classical.not_not.mp h1) (nI_n1 (by omega))

set_option maxHeartbeats 800000 in
theorem mt_item (d : Nat) (htx : txM z t E L) (v : vN V N S) (hwn : wnV V) (hs : mR V C J) {p : Nat} (hm : mst z E p J) (hpE : p ≤ E) (hT : J 127 = T) : cP (d + 3) 161 [.ref 108] (mm_sh, mm_R, J, L) (pX (some (.int (itA (y_im t V p)))) L (itX C T z E V (y_im t V p))) := by
  have hE := htx.2.1
  have hW := hwn.wd hs
  refine cP.of_gP (d := d + 2) me_161 ⟨Nat.le_of_ble_eq_true rfl, rfl⟩ ?_
  show gP mm_cs0 _ _ _ _ _ _ [some (.ref _), none, none, none] [] _ _
  refine dn_it0 d htx hs hm hpE hW (fun hfu => ?_) (fun hfu => ?_)
  · obtain ⟨w, hw, hWw, hf⟩ : ∃ w, w < 8 ∧ y_W t p w ∧ y_fu V w := by
      rcases hfu with ⟨a, b⟩ | ⟨a, b⟩
      · exact ⟨0, by decide, a, Or.inl ⟨rfl, b⟩⟩
      · exact ⟨1, by decide, a, Or.inr ⟨rfl, b⟩⟩
    refine gp_aload_n dX9_item_34 rfl ?_
    refine gp_aload_n dX9_item_35 rfl ?_
    refine gp_giv dX9_item_36 mf_9_176 (by decide) (by first | rfl | assumption | (simp only [*]; done)) (by first | exact hm.2.1 | exact rfl) ?_
    refine gp_call (kind := 1) (args := [.ref _, .int _]) (rest := _) dX9_item_39 (Or.inr (Or.inl ⟨rfl, rfl⟩)) mk_9_192 (by decide) me_155 rfl rfl rfl rfl rfl (mm_rc_of (by first | rfl | assumption | (simp only [*]; done))) (ok_wrong _ _ _ _) rfl ?_
    refine gp_zret dX9_item_42 rfl (by first | exact Or.inl rfl | exact Or.inr rfl | assumption) ?_
    exact itQ (y_im_f hWw hw hf) (hs.u (by decide) rfl) ((mm_u_k _ _ _ (by decide)).trans hT) (mm_u_s _ _ _ _)
  · refine gp_aload_n dX9_item_43 rfl ?_
    refine gp_callP (kind := 1) (args := [.ref _]) (rest := _) dX9_item_44 (Or.inr (Or.inl ⟨rfl, rfl⟩)) mk_9_198 (by decide) me_157 rfl rfl rfl rfl rfl (mm_rc_of (by first | rfl | assumption | (simp only [*]; done))) (mt_word (Q := fun r M1 => (∃ w, w < 8 ∧ y_W t p w ∧ t (p + (mm_sy w).length) = 32 ∧ r = some (.int (nI w)) ∧ M1 = (mm_sh, mm_R, mm_u J 108 29 (nI (p + (mm_sy w).length + 1)), L)) ∨ ((∀ w, w < 8 → ¬ (y_W t p w ∧ t (p + (mm_sy w).length) = 32)) ∧ r = some (.int (-1)) ∧ M1 = (mm_sh, mm_R, mm_u J 108 32 (nI (p + y_mb t p 8)), L))) _ htx hm hpE hW (fun w a b c => Or.inl ⟨w, a, b, c, rfl, rfl⟩) (fun a => Or.inr ⟨a, rfl, rfl⟩)) ?_ ?_
    · rintro r M1 (⟨w, -, -, -, -, rfl⟩ | ⟨-, -, rfl⟩) <;> rfl
    · rintro r M1 (⟨w, hw, hWw, hb, rfl, rfl⟩ | ⟨hn, rfl, rfl⟩)
      · have hnf : ¬ y_fu V w := by
          rintro (⟨rfl, b⟩ | ⟨rfl, b⟩)
          · exact hfu (Or.inl ⟨hWw, b⟩)
          · exact hfu (Or.inr ⟨hWw, b⟩)
        have hE2 := y_W_E htx.2.2.2 hWw hw
        have hqE : p + (mm_sy w).length + 1 ≤ E := by
          by_cases y : p + (mm_sy w).length < E
          · omega
          · rw [htx.2.2.2 _ (by omega)] at hb; exact absurd hb (by decide)
        refine dn_it47k d htx v hwn hw hqE hb hs hm hT (R := y_ns t (y_lo w) (y_hi V w) (y_cn w) 0 (p + (mm_sy w).length) y_g0) rfl (fun e K1 hR a b c => itQ (y_im_e hWw hw hnf hR) a b c) (fun q1 f1 K1 v3 hR a => ?_)
        obtain ⟨n1, n2, n3⟩ := y_ns_n htx.2.2.2 hE2 hR
        have k0 : K1 108 0 = nI N := (a.1.r (by decide)).trans v.2.2.1
        have k1 : K1 108 1 = nI S := (a.1.r (by decide)).trans v.2.2.2.1
        have ho : ∀ k j, ¬ fK8 k j → y_ef K1 w f1 k j = K1 k j := fun k j hk => y_ef_o v hw hnf n1 k0 k1 hk
        refine dn_ef (d + 1) v k0 k1 hw hnf n1 a.2.2.2 (itK (y_im_k hWw hw hnf hR) (mR_ef a.1 v hw) ?_ ⟨?_, ?_, ?_⟩)
        · rw [← a.2.1]; funext j; exact ho 127 j (by rintro (y | y) <;> omega)
        · rw [ho 108 28 (by rintro (y | y) <;> omega)]; exact a.2.2.1.1
        · rw [ho 108 29 (by rintro (y | y) <;> omega)]; exact a.2.2.1.2.1
        · rw [ho 108 30 (by rintro (y | y) <;> omega)]; exact a.2.2.1.2.2
      · refine dn_it47n d ?_
        refine itQ (e := p + y_mb t p 8) ?_ (hs.u (by decide) rfl) ((mm_u_k _ _ _ (by decide)).trans hT) (mm_u_s _ _ _ _)
        rcases y_wcase t p with h | ⟨w, hw, hWw⟩
        · rw [y_mb_n h 8 (Nat.le_refl 8)]; exact y_im_n h
        · have hnf : ¬ y_fu V w := by
            rintro (⟨rfl, b⟩ | ⟨rfl, b⟩)
            · exact hfu (Or.inl ⟨hWw, b⟩)
            · exact hfu (Or.inr ⟨hWw, b⟩)
          have hb : ¬ t (p + (mm_sy w).length) = 32 := fun y => hn w hw ⟨hWw, y⟩
          rw [y_mb_w hWw hw hb]
          refine y_im_e hWw hw hnf ?_
          have := (y_cn_b w).1
          rw [show y_cn w = (y_cn w - 1) + 1 by omega]
          exact y_ns_b hb
end P98wc
