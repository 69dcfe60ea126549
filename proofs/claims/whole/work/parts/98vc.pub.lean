/-! PUBLIC METHODS: field: the class reads numbers and items -/
section P98vc
variable {I C J K V : pI} {L : pL} {N S : Nat} {t : Nat → Int32} {z E w : Nat} {f : Nat → Int32}

theorem txC.cg (h : txC z t E L J) (e : ∀ j, K z j = J z j) : txC z t E L K := ⟨h.1, h.2.1, by rw [e]; exact h.2.2.1, h.2.2.2.1, h.2.2.2.2⟩
/-- a number read by the class at place q, number i, from a to b -/
def rnX (t : Nat → Int32) (q i : Nat) (a b : Int32) (J K : pI) : Prop := (∀ c, c ≠ 65 → c ≠ 66 → K c = J c) ∧ ((¬ t q = 32 ∧ K 65 2 = nI q) ∨ (t q = 32 ∧ ((y_nv t 3 (q + 1) 0).2 = q + 1 ∨ ¬ (a ≤ (y_nv t 3 (q + 1) 0).1 ∧ (y_nv t 3 (q + 1) 0).1 ≤ b)) ∧ K 65 2 = nI (q + 1)) ∨ (t q = 32 ∧ ¬ ((y_nv t 3 (q + 1) 0).2 = q + 1 ∨ ¬ (a ≤ (y_nv t 3 (q + 1) 0).1 ∧ (y_nv t 3 (q + 1) 0).1 ≤ b)) ∧ K 65 2 = J 65 2 ∧ K 65 1 = nI (y_nv t 3 (q + 1) 0).2 ∧ ∀ j, K 66 j = if j = i then (y_nv t 3 (q + 1) 0).1 else J 66 j))
theorem rnX_b {q i : Nat} {a b : Int32} (h : ¬ t q = 32) : rnX t q i a b J (mm_u J 65 2 (nI q)) := ⟨fun c h1 _ => mm_u_k _ _ _ h1, Or.inl ⟨h, mm_u_s _ _ _ _⟩⟩
theorem rnX_e {q i : Nat} {a b x : Int32} (h : t q = 32) (h2 : (y_nv t 3 (q + 1) 0).2 = q + 1 ∨ ¬ (a ≤ (y_nv t 3 (q + 1) 0).1 ∧ (y_nv t 3 (q + 1) 0).1 ≤ b)) : rnX t q i a b J (mm_u (mm_u J 65 1 x) 65 2 (nI (q + 1))) := ⟨fun c h1 _ => by rw [mm_u_k _ _ _ h1, mm_u_k _ _ _ h1], Or.inr (Or.inl ⟨h, h2, mm_u_s _ _ _ _⟩)⟩
theorem rnX_k {q i : Nat} {a b x y : Int32} (h : t q = 32) (h2 : ¬ ((y_nv t 3 (q + 1) 0).2 = q + 1 ∨ ¬ (a ≤ (y_nv t 3 (q + 1) 0).1 ∧ (y_nv t 3 (q + 1) 0).1 ≤ b))) (hx : x = nI (y_nv t 3 (q + 1) 0).2) (hy : y = (y_nv t 3 (q + 1) 0).1) : rnX t q i a b J (mm_u (mm_u J 65 1 x) 66 i y) := by
  refine ⟨fun c h1 h3 => by rw [mm_u_k _ _ _ h3, mm_u_k _ _ _ h1], Or.inr (Or.inr ⟨h, h2, ?_, ?_, fun j => ?_⟩)⟩
  · rw [mm_u_o _ _ _ _ (by decide), mm_u_j _ _ (by decide)]
  · rw [mm_u_o _ _ _ _ (by decide), mm_u_s, hx]
  · by_cases y : j = i
    · rw [y, mm_u_s, if_pos rfl, hy]
    · rw [mm_u_j _ _ y, if_neg y, mm_u_o _ _ _ _ (by decide)]
theorem ok_asT1 (d : Nat) (h : txC z t E L J) (hz : ¬ z = 65) {v x : Int32} {p : Nat} (hx : x = nI p) (hp : p ≤ 2000) : mm_Call (d + 3) 58 [.ref z, .int x] (mm_sh, mm_R, mm_u J 65 1 v, L) (some (.int (t p))) (mm_sh, mm_R, mm_u J 65 1 v, L) := ok_asT d (h.cg (fun j => mm_u_o _ _ _ _ hz)) hx hp

set_option maxHeartbeats 400000 in
theorem dn_rn98 (d : Nat) {q i : Nat} {a b : Int32} (h32 : t q = 32) (hq : q ≤ 400) (hi : i < 3) (hR : (y_nv t 3 (q + 1) 0).2 ≤ 500) : gP mm_cs0 (d + 3) 5 false none cX5_readNumber 98 [some (.ref 65), some (.ref z), some (.int (nI i)), some (.int a), some (.int b), some (.int (nI (q + 1))), some (.int (y_nv t 3 (q + 1) 0).1)] [] (mm_sh, mm_R, mm_u J 65 1 (nI (y_nv t 3 (q + 1) 0).2), L) (pX none L (rnX t q i a b J)) := by
  have zqi : mm_in (nI i) 3 = true := (mm_in_i (n := 3) (by omega)).mpr ⟨nI_pos' (by omega), nI_lt (b := 3) hi (by omega)⟩
  refine gp_aload_n dX5_readNumber_98 rfl ?_
  refine gp_giv dX5_readNumber_99 mf_5_19 (by decide) (by first | rfl | assumption | (simp only [*]; done)) (by first | exact mm_u_s _ _ _ _ | exact rfl) ?_
  refine gp_iload dX5_readNumber_102 rfl ?_
  refine gp_icc (t := 120) dX5_readNumber_104 (by decide) c2_eq (fun h1 => ?_) (fun h1 => ?_)
  · refine gp_aload_n dX5_readNumber_120 rfl ?_
    refine gp_iload dX5_readNumber_121 rfl ?_
    refine gp_pi dX5_readNumber_123 mf_5_15 rfl rfl (by first | rfl | assumption | (simp only [*]; done)) ?_
    refine gp_goto (t := 150) dX5_readNumber_126 (by decide) ?_
    refine gp_vret dX5_readNumber_150 rfl ?_
    first | (refine pX.mk rfl (rnX_e h32 ?_); first | exact Or.inl ((nI_eq (by omega) (by omega)).mp h1) | (right; rintro ⟨y1, y2⟩; contradiction)) | (refine pX.mk rfl ?_; rw [nI_clamp (by omega)]; refine rnX_k h32 (fun y => ?_) rfl rfl; rcases y with y | y; (exact h1 (congrArg nI y)); (exact y ⟨by assumption, by assumption⟩))
  · refine gp_iload dX5_readNumber_107 rfl ?_
    refine gp_iload_n dX5_readNumber_109 rfl ?_
    refine gp_icc (t := 120) dX5_readNumber_110 (by decide) c2_lt (fun h2 => ?_) (fun h2 => ?_)
    · have h2' := Int32.not_le.mpr h2
      refine gp_aload_n dX5_readNumber_120 rfl ?_
      refine gp_iload dX5_readNumber_121 rfl ?_
      refine gp_pi dX5_readNumber_123 mf_5_15 rfl rfl (by first | rfl | assumption | (simp only [*]; done)) ?_
      refine gp_goto (t := 150) dX5_readNumber_126 (by decide) ?_
      refine gp_vret dX5_readNumber_150 rfl ?_
      first | (refine pX.mk rfl (rnX_e h32 ?_); first | exact Or.inl ((nI_eq (by omega) (by omega)).mp h1) | (right; rintro ⟨y1, y2⟩; contradiction)) | (refine pX.mk rfl ?_; rw [nI_clamp (by omega)]; refine rnX_k h32 (fun y => ?_) rfl rfl; rcases y with y | y; (exact h1 (congrArg nI y)); (exact y ⟨by assumption, by assumption⟩))
    · have h2' := Int32.not_lt.mp h2
      refine gp_iload dX5_readNumber_113 rfl ?_
      refine gp_iload dX5_readNumber_115 rfl ?_
      refine gp_icc (t := 129) dX5_readNumber_117 (by decide) c2_le (fun h3 => ?_) (fun h3 => ?_)
      · have h3' := Int32.not_lt.mpr h3
        refine gp_iload_n dX5_readNumber_129 rfl ?_
        refine gp_ifc (t := 150) dX5_readNumber_130 (by decide) c1_lt (fun h4 => ?_) (fun h4 => ?_)
        · exact absurd h4 (nI_pos (by omega))
        · have h4' := Int32.not_lt.mp h4
          refine gp_iload_n dX5_readNumber_133 rfl ?_
          refine gp_aload_n dX5_readNumber_134 rfl ?_
          refine gp_gr dX5_readNumber_135 mf_5_11 rfl (by first | rfl | assumption | (simp only [*]; done)) (by first | rfl | assumption | (simp only [*]; done)) ?_
          refine gp_len dX5_readNumber_138 rfl (by first | rfl | assumption | (simp only [*]; done)) (by decide) rfl ?_
          refine gp_icc (t := 150) dX5_readNumber_139 (by decide) c2_ge (fun h5 => ?_) (fun h5 => ?_)
          · exact absurd h5 (nI_ge (b := 3) (by omega) (by omega))
          · have h5' := Int32.not_le.mp h5
            refine gp_aload_n dX5_readNumber_142 rfl ?_
            refine gp_gr dX5_readNumber_143 mf_5_11 rfl (by first | rfl | assumption | (simp only [*]; done)) (by first | rfl | assumption | (simp only [*]; done)) ?_
            refine gp_iload_n dX5_readNumber_146 rfl ?_
            refine gp_iload dX5_readNumber_147 rfl ?_
            refine gp_ias dX5_readNumber_149 (by first | rfl | assumption | (simp only [*]; done)) zqi ?_
            refine gp_vret dX5_readNumber_150 rfl ?_
            first | (refine pX.mk rfl (rnX_e h32 ?_); first | exact Or.inl ((nI_eq (by omega) (by omega)).mp h1) | (right; rintro ⟨y1, y2⟩; contradiction)) | (refine pX.mk rfl ?_; rw [nI_clamp (by omega)]; refine rnX_k h32 (fun y => ?_) rfl rfl; rcases y with y | y; (exact h1 (congrArg nI y)); (exact y ⟨by assumption, by assumption⟩))
      · have h3' := Int32.not_le.mp h3
        refine gp_aload_n dX5_readNumber_120 rfl ?_
        refine gp_iload dX5_readNumber_121 rfl ?_
        refine gp_pi dX5_readNumber_123 mf_5_15 rfl rfl (by first | rfl | assumption | (simp only [*]; done)) ?_
        refine gp_goto (t := 150) dX5_readNumber_126 (by decide) ?_
        refine gp_vret dX5_readNumber_150 rfl ?_
        first | (refine pX.mk rfl (rnX_e h32 ?_); first | exact Or.inl ((nI_eq (by omega) (by omega)).mp h1) | (right; rintro ⟨y1, y2⟩; contradiction)) | (refine pX.mk rfl ?_; rw [nI_clamp (by omega)]; refine rnX_k h32 (fun y => ?_) rfl rfl; rcases y with y | y; (exact h1 (congrArg nI y)); (exact y ⟨by assumption, by assumption⟩))

set_option maxHeartbeats 400000 in
theorem lp_rn (d : Nat) (htx : txC z t E L J) (hz : ¬ z = 65) {q i : Nat} {a b : Int32} (hq : q ≤ 400) {R : Int32 × Nat} {Q : Option Value → mm_M → Prop} : ∀ (n p : Nat) (x : Int32), p + n = q + 4 → y_nv t n p x = R → (gP mm_cs0 (d + 3) 5 false none cX5_readNumber 98 [some (.ref 65), some (.ref z), some (.int (nI i)), some (.int a), some (.int b), some (.int (nI (q + 1))), some (.int R.1)] [] (mm_sh, mm_R, mm_u J 65 1 (nI R.2), L) Q) → gP mm_cs0 (d + 3) 5 false none cX5_readNumber 41 [some (.ref 65), some (.ref z), some (.int (nI i)), some (.int a), some (.int b), some (.int (nI (q + 1))), some (.int x)] [] (mm_sh, mm_R, (mm_u J 65 1 (nI p)), L) Q := by
  intro n
  induction n with
  | zero =>
    intro p x hi hR hcont
    obtain rfl : p = q + 4 := by omega
    have hc1 : nI (q + 1) + 3 ≤ nI (q + 4) := by rw [show nI (q + 1) + 3 = nI (q + 1 + 3) from nI_add (q + 1) 3]; exact Int32.le_refl _
    refine gp_aload_n dX5_readNumber_41 rfl ?_
    refine gp_giv dX5_readNumber_42 mf_5_19 (by decide) (by first | rfl | assumption | (simp only [*]; done)) (by first | exact mm_u_s _ _ _ _ | exact rfl) ?_
    refine gp_iload dX5_readNumber_45 rfl ?_
    refine gp_pu (st' := .int (3) :: _) dX5_readNumber_47 rfl ?_
    refine gp_pu (st' := .int _ :: _) dX5_readNumber_48 rfl ?_
    refine gp_icc (t := 98) dX5_readNumber_49 (by decide) c2_ge (fun h1 => ?_) (fun h1 => ?_)
    · have h1' := Int32.not_lt.mpr h1
      (subst hR; exact hcont)
    · exact absurd hc1 h1
  | succ n ih =>
    intro p x hi hR hcont
    have hc1 : ¬ nI (q + 1) + 3 ≤ nI p := by rw [show nI (q + 1) + 3 = nI (q + 1 + 3) from nI_add (q + 1) 3]; exact nI_ge (by omega) (by omega)
    refine gp_aload_n dX5_readNumber_41 rfl ?_
    refine gp_giv dX5_readNumber_42 mf_5_19 (by decide) (by first | rfl | assumption | (simp only [*]; done)) (by first | exact mm_u_s _ _ _ _ | exact rfl) ?_
    refine gp_iload dX5_readNumber_45 rfl ?_
    refine gp_pu (st' := .int (3) :: _) dX5_readNumber_47 rfl ?_
    refine gp_pu (st' := .int _ :: _) dX5_readNumber_48 rfl ?_
    refine gp_icc (t := 98) dX5_readNumber_49 (by decide) c2_ge (fun h1 => ?_) (fun h1 => ?_)
    · exact absurd h1 hc1
    · have h1' := Int32.not_le.mp h1
      refine gp_aload_n dX5_readNumber_52 rfl ?_
      refine gp_aload_n dX5_readNumber_53 rfl ?_
      refine gp_giv dX5_readNumber_54 mf_5_19 (by decide) (by first | rfl | assumption | (simp only [*]; done)) (by first | exact mm_u_s _ _ _ _ | exact rfl) ?_
      refine gp_call (kind := 1) (args := [.ref _, .int _]) (rest := _) dX5_readNumber_57 (Or.inr (Or.inl ⟨rfl, rfl⟩)) mk_5_31 (by decide) me_58 rfl rfl rfl rfl rfl (mm_rc_of htx.1.1) (ok_asT1 _ htx hz rfl (by omega)) rfl ?_
      refine gp_call (kind := 0) (args := [.int _]) (rest := _) dX5_readNumber_60 (Or.inl ⟨rfl, rfl⟩) mk_5_85 (by decide) me_41 rfl rfl rfl rfl rfl rfl (ok_isDigit _ _ _) rfl ?_
      refine gp_ifc (t := 98) dX5_readNumber_63 (by decide) c1_eq (fun h2 => ?_) (fun h2 => ?_)
      · (have hd := bi_0.mp h2
         rw [y_nv_f hd] at hR
         subst hR
         exact hcont)
      · refine gp_iload dX5_readNumber_66 rfl ?_
        refine gp_pu (st' := .int (10) :: _) dX5_readNumber_68 rfl ?_
        refine gp_pu (st' := .int _ :: _) dX5_readNumber_70 rfl ?_
        refine gp_aload_n dX5_readNumber_71 rfl ?_
        refine gp_aload_n dX5_readNumber_72 rfl ?_
        refine gp_giv dX5_readNumber_73 mf_5_19 (by decide) (by first | rfl | assumption | (simp only [*]; done)) (by first | exact mm_u_s _ _ _ _ | exact rfl) ?_
        refine gp_call (kind := 1) (args := [.ref _, .int _]) (rest := _) dX5_readNumber_76 (Or.inr (Or.inl ⟨rfl, rfl⟩)) mk_5_31 (by decide) me_58 rfl rfl rfl rfl rfl (mm_rc_of htx.1.1) (ok_asT1 _ htx hz rfl (by omega)) rfl ?_
        refine gp_pu (st' := .int _ :: _) dX5_readNumber_79 rfl ?_
        refine gp_pu (st' := .int (48) :: _) dX5_readNumber_80 rfl ?_
        refine gp_pu (st' := .int _ :: _) dX5_readNumber_82 rfl ?_
        refine gp_istore (ls' := [some (.ref _), some (.ref _), some (.int _), some (.int _), some (.int _), some (.int _), some (.int _)]) dX5_readNumber_83 rfl (Nat.le_of_ble_eq_true rfl) ?_
        refine gp_aload_n dX5_readNumber_85 rfl ?_
        refine gp_pu dX5_readNumber_86 rfl ?_
        refine gp_giv dX5_readNumber_87 mf_5_19 (by decide) (by first | rfl | assumption | (simp only [*]; done)) (by first | exact mm_u_s _ _ _ _ | exact rfl) ?_
        refine gp_pu (st' := .int (1) :: _) dX5_readNumber_90 rfl ?_
        refine gp_pu (st' := .int _ :: _) dX5_readNumber_91 rfl ?_
        refine gp_pi dX5_readNumber_92 mf_5_19 rfl rfl (by first | rfl | assumption | (simp only [*]; done)) ?_
        refine gp_goto (t := 41) dX5_readNumber_95 (by decide) ?_
        (have hd : 48 ≤ t p ∧ t p ≤ 57 := Classical.not_not.mp (fun y => h2 (bi_0.mpr y))
         rw [y_nv_t hd] at hR
         rw [nI_1, mm_u_uu, Int32.mul_comm]
         exact ih (p + 1) _ (by omega) hR hcont)

set_option maxHeartbeats 400000 in
theorem ct_readNumber (d : Nat) (htx : txC z t E L J) (hz : ¬ z = 65) {q i : Nat} {a b : Int32} (hp : J 65 1 = nI q) (hq : q ≤ 400) (hi : i < 3) : cP (d + 4) 39 [.ref 65, .ref z, .int (nI i), .int a, .int b] (mm_sh, mm_R, J, L) (pX none L (rnX t q i a b J)) := by
  refine cP.of_gP (d := d + 3) me_39 ⟨Nat.le_of_ble_eq_true rfl, rfl⟩ ?_
  show gP mm_cs0 _ _ _ _ _ _ [some (.ref _), some (.ref _), some (.int _), some (.int _), some (.int _), none, none] [] _ _
  refine gp_aload_n dX5_readNumber_0 rfl ?_
  refine gp_aload_n dX5_readNumber_1 rfl ?_
  refine gp_giv dX5_readNumber_2 mf_5_19 (by decide) (by first | rfl | assumption | (simp only [*]; done)) (by first | exact hp | exact rfl) ?_
  refine gp_call (kind := 1) (args := [.ref _, .int _]) (rest := _) dX5_readNumber_5 (Or.inr (Or.inl ⟨rfl, rfl⟩)) mk_5_31 (by decide) me_58 rfl rfl rfl rfl rfl (mm_rc_of htx.1.1) (ok_asT _ htx rfl (by omega)) rfl ?_
  refine gp_pu (st' := .int (32) :: _) dX5_readNumber_8 rfl ?_
  refine gp_icc (t := 22) dX5_readNumber_10 (by decide) c2_eq (fun h1 => ?_) (fun h1 => ?_)
  · (try simp only [Classical.not_not] at h1)
    refine gp_aload_n dX5_readNumber_22 rfl ?_
    refine gp_pu dX5_readNumber_23 rfl ?_
    refine gp_giv dX5_readNumber_24 mf_5_19 (by decide) (by first | rfl | assumption | (simp only [*]; done)) (by first | exact hp | exact rfl) ?_
    refine gp_pu (st' := .int (1) :: _) dX5_readNumber_27 rfl ?_
    refine gp_pu (st' := .int _ :: _) dX5_readNumber_28 rfl ?_
    refine gp_pi dX5_readNumber_29 mf_5_19 rfl rfl (by first | rfl | assumption | (simp only [*]; done)) ?_
    (rw [nI_1]
     refine gp_aload_n dX5_readNumber_32 rfl ?_
     refine gp_giv dX5_readNumber_33 mf_5_19 (by decide) (by first | rfl | assumption | (simp only [*]; done)) (mm_u_s _ _ _ _) ?_
     refine gp_istore (ls' := [some (.ref _), some (.ref _), some (.int _), some (.int _), some (.int _), some (.int _), none]) dX5_readNumber_36 rfl (Nat.le_of_ble_eq_true rfl) ?_
     refine gp_pu (st' := .int (0) :: _) dX5_readNumber_38 rfl ?_
     refine gp_istore (ls' := [some (.ref _), some (.ref _), some (.int _), some (.int _), some (.int _), some (.int _), some (.int _)]) dX5_readNumber_39 rfl (Nat.le_of_ble_eq_true rfl) ?_
     have hw := y_nv_w (t := t) (q + 1)
     exact lp_rn d htx hz hq 3 (q + 1) 0 (by omega) rfl (dn_rn98 d h1 hq hi (by omega)))
  · (try simp only [Classical.not_not] at h1)
    refine gp_aload_n dX5_readNumber_13 rfl ?_
    refine gp_aload_n dX5_readNumber_14 rfl ?_
    refine gp_giv dX5_readNumber_15 mf_5_19 (by decide) (by first | rfl | assumption | (simp only [*]; done)) (by first | exact hp | exact rfl) ?_
    refine gp_pi dX5_readNumber_18 mf_5_15 rfl rfl (by first | rfl | assumption | (simp only [*]; done)) ?_
    refine gp_vret dX5_readNumber_21 rfl ?_
    exact pX.mk rfl (rnX_b h1)
end P98vc
