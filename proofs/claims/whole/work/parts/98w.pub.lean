/-! PUBLIC METHODS: field: the reference reads numbers -/
section P98w
variable {I C J K V : pI} {L : pL} {N S : Nat} {t : Nat → Int32} {z E w : Nat} {f : Nat → Int32}

/-- the text in the reference's cells -/
def txM (z : Nat) (t : Nat → Int32) (E : Nat) (L : pL) : Prop := z < 8 ∧ E ≤ 160 ∧ (∀ p, p < E → (L 122 (160 * z + p)).toInt32 = t p) ∧ ∀ p, E ≤ p → t p = 0
/-- base, at, end -/
def mst (z E p : Nat) (J : pI) : Prop := J 108 28 = nI (160 * z) ∧ J 108 29 = nI p ∧ J 108 30 = nI E
theorem tx_i (h : txM z t E L) {p : Nat} (hp : p < E) {x y : Int32} (hx : x = nI (160 * z)) (hy : y = nI p) : mm_in (x + y) 1280 = true ∧ (L 122 (x + y).toNatClampNeg).toInt32 = t p := by
  obtain ⟨h1, h2, h3, h4⟩ := h
  rw [hx, hy, nI_add, nI_clamp (by omega)]
  exact ⟨(mm_in_i (n := 1280) (by omega)).mpr ⟨nI_pos' (by omega), nI_lt (b := 1280) (by omega) (by omega)⟩, h3 p hp⟩
theorem bi_cg {p q : Prop} [Decidable p] [Decidable q] (h : p ↔ q) : bi p = bi q := by
  by_cases hp : p
  · rw [bi_t hp, bi_t (h.mp hp)]
  · rw [bi_f hp, bi_f (fun y => hp (h.mpr y))]

set_option maxHeartbeats 400000 in
theorem ok_isDigM (d : Nat) (htx : txM z t E L) {p : Nat} (hm : mst z E p J) (hp : p ≤ 2000) : mm_Call (d + 1) 158 [.ref 108] (mm_sh, mm_R, J, L) (some (.int (bi (48 ≤ t p ∧ t p ≤ 57)))) (mm_sh, mm_R, J, L) := by
  have hE := htx.2.1
  have zqp : ¬ nI E ≤ nI p → p < E := fun y => by
    by_cases x : p < E
    · exact x
    · exact absurd (nI_le (by omega) (by omega)) y
  have zqo : nI E ≤ nI p → bi (48 ≤ t p ∧ t p ≤ 57) = 0 := fun y => by
    have : E ≤ p := by
      by_cases x : E ≤ p
      · exact x
      · exact absurd y (nI_ge (by omega) (by omega))
    rw [htx.2.2.2 p this]
    rfl
  refine cP.call ?_
  refine cP.of_gP (d := d + 0) me_158 ⟨Nat.le_of_ble_eq_true rfl, rfl⟩ ?_
  show gP mm_cs0 _ _ _ _ _ _ [some (.ref _)] [] _ _
  refine gp_aload_n dX9_isDigit_0 rfl ?_
  refine gp_giv dX9_isDigit_1 mf_9_176 (by decide) (by first | rfl | assumption | (simp only [*]; done)) (by first | exact hm.2.1 | exact hm.2.2 | exact hm.1 | exact rfl) ?_
  refine gp_aload_n dX9_isDigit_4 rfl ?_
  refine gp_giv dX9_isDigit_5 mf_9_179 (by decide) (by first | rfl | assumption | (simp only [*]; done)) (by first | exact hm.2.1 | exact hm.2.2 | exact hm.1 | exact rfl) ?_
  refine gp_icc (t := 55) dX9_isDigit_8 (by decide) c2_ge (fun h1 => ?_) (fun h1 => ?_)
  · have h1' := Int32.not_lt.mpr h1
    refine gp_pu (st' := .int (0) :: _) dX9_isDigit_55 rfl ?_
    refine gp_zret dX9_isDigit_56 rfl (by first | exact Or.inl rfl | exact Or.inr rfl | assumption) ?_
    first | exact ⟨by rw [zqo h1], rfl⟩ | exact ⟨by rw [bi_t (by assumption)], rfl⟩ | exact ⟨by rw [bi_f (by assumption)], rfl⟩ | exact ⟨by rw [bi_t ⟨by assumption, by assumption⟩], rfl⟩ | exact ⟨by rw [bi_f (by rintro ⟨q1, q2⟩; contradiction)], rfl⟩
  · have h1' := Int32.not_le.mp h1
    refine gp_aload_n dX9_isDigit_11 rfl ?_
    refine gp_gr dX9_isDigit_12 mf_9_68 rfl (by first | rfl | assumption | (simp only [*]; done)) (by first | rfl | assumption | (simp only [*]; done)) ?_
    refine gp_aload_n dX9_isDigit_15 rfl ?_
    refine gp_giv dX9_isDigit_16 mf_9_182 (by decide) (by first | rfl | assumption | (simp only [*]; done)) (by first | exact hm.2.1 | exact hm.2.2 | exact hm.1 | exact rfl) ?_
    refine gp_aload_n dX9_isDigit_19 rfl ?_
    refine gp_giv dX9_isDigit_20 mf_9_176 (by decide) (by first | rfl | assumption | (simp only [*]; done)) (by first | exact hm.2.1 | exact hm.2.2 | exact hm.1 | exact rfl) ?_
    refine gp_pu (st' := .int _ :: _) dX9_isDigit_23 rfl ?_
    refine gp_lal dX9_isDigit_24 (by first | rfl | assumption | (simp only [*]; done)) (tx_i htx (zqp h1) rfl rfl).1 ?_
    refine gp_pu (st' := .int _ :: _) dX9_isDigit_25 rfl ?_
    rw [(tx_i htx (zqp h1) rfl rfl).2]
    refine gp_pu (st' := .int (48) :: _) dX9_isDigit_26 rfl ?_
    refine gp_icc (t := 55) dX9_isDigit_28 (by decide) c2_lt (fun h2 => ?_) (fun h2 => ?_)
    · have h2' := Int32.not_le.mpr h2
      refine gp_pu (st' := .int (0) :: _) dX9_isDigit_55 rfl ?_
      refine gp_zret dX9_isDigit_56 rfl (by first | exact Or.inl rfl | exact Or.inr rfl | assumption) ?_
      first | exact ⟨by rw [zqo h1], rfl⟩ | exact ⟨by rw [bi_t (by assumption)], rfl⟩ | exact ⟨by rw [bi_f (by assumption)], rfl⟩ | exact ⟨by rw [bi_t ⟨by assumption, by assumption⟩], rfl⟩ | exact ⟨by rw [bi_f (by rintro ⟨q1, q2⟩; contradiction)], rfl⟩
    · have h2' := Int32.not_lt.mp h2
      refine gp_aload_n dX9_isDigit_31 rfl ?_
      refine gp_gr dX9_isDigit_32 mf_9_68 rfl (by first | rfl | assumption | (simp only [*]; done)) (by first | rfl | assumption | (simp only [*]; done)) ?_
      refine gp_aload_n dX9_isDigit_35 rfl ?_
      refine gp_giv dX9_isDigit_36 mf_9_182 (by decide) (by first | rfl | assumption | (simp only [*]; done)) (by first | exact hm.2.1 | exact hm.2.2 | exact hm.1 | exact rfl) ?_
      refine gp_aload_n dX9_isDigit_39 rfl ?_
      refine gp_giv dX9_isDigit_40 mf_9_176 (by decide) (by first | rfl | assumption | (simp only [*]; done)) (by first | exact hm.2.1 | exact hm.2.2 | exact hm.1 | exact rfl) ?_
      refine gp_pu (st' := .int _ :: _) dX9_isDigit_43 rfl ?_
      refine gp_lal dX9_isDigit_44 (by first | rfl | assumption | (simp only [*]; done)) (tx_i htx (zqp h1) rfl rfl).1 ?_
      refine gp_pu (st' := .int _ :: _) dX9_isDigit_45 rfl ?_
      rw [(tx_i htx (zqp h1) rfl rfl).2]
      refine gp_pu (st' := .int (57) :: _) dX9_isDigit_46 rfl ?_
      refine gp_icc (t := 55) dX9_isDigit_48 (by decide) c2_gt (fun h3 => ?_) (fun h3 => ?_)
      · have h3' := Int32.not_le.mpr h3
        refine gp_pu (st' := .int (0) :: _) dX9_isDigit_55 rfl ?_
        refine gp_zret dX9_isDigit_56 rfl (by first | exact Or.inl rfl | exact Or.inr rfl | assumption) ?_
        first | exact ⟨by rw [zqo h1], rfl⟩ | exact ⟨by rw [bi_t (by assumption)], rfl⟩ | exact ⟨by rw [bi_f (by assumption)], rfl⟩ | exact ⟨by rw [bi_t ⟨by assumption, by assumption⟩], rfl⟩ | exact ⟨by rw [bi_f (by rintro ⟨q1, q2⟩; contradiction)], rfl⟩
      · have h3' := Int32.not_lt.mp h3
        refine gp_pu (st' := .int (1) :: _) dX9_isDigit_51 rfl ?_
        refine gp_goto (t := 56) dX9_isDigit_52 (by decide) ?_
        refine gp_zret dX9_isDigit_56 rfl (by first | exact Or.inl rfl | exact Or.inr rfl | assumption) ?_
        first | exact ⟨by rw [zqo h1], rfl⟩ | exact ⟨by rw [bi_t (by assumption)], rfl⟩ | exact ⟨by rw [bi_f (by assumption)], rfl⟩ | exact ⟨by rw [bi_t ⟨by assumption, by assumption⟩], rfl⟩ | exact ⟨by rw [bi_f (by rintro ⟨q1, q2⟩; contradiction)], rfl⟩

set_option maxHeartbeats 400000 in
theorem as_0 (d : Nat) (M : mm_M) (x : Int32) : mm_Call (d + 1) 150 [.ref 108, .int (0), .int x] M (some (.int (bi (1 ≤ x ∧ x ≤ 200)))) M := by
  refine cP.call ?_
  refine cP.of_gP (d := d + 0) me_150 ⟨Nat.le_of_ble_eq_true rfl, rfl⟩ ?_
  show gP mm_cs0 _ _ _ _ _ _ [some (.ref _), some (.int _), some (.int _)] [] _ _
  refine gp_iload_n dX9_isAsked_0 rfl ?_
  refine gp_iload_n dX9_isAsked_1 rfl ?_
  refine gp_pu (st' := .int (2) :: _) dX9_isAsked_2 rfl ?_
  refine gp_icc (t := 10) dX9_isAsked_3 (by decide) c2_ge (fun h1 => ?_) (fun h1 => ?_)
  · exact absurd h1 (by decide)
  · have h1' := Int32.not_le.mp h1
    refine gp_pu (st' := .int (1) :: _) dX9_isAsked_6 rfl ?_
    refine gp_goto (t := 11) dX9_isAsked_7 (by decide) ?_
    refine gp_icc (t := 54) dX9_isAsked_11 (by decide) c2_lt (fun h2 => ?_) (fun h2 => ?_)
    · have h2' := Int32.not_le.mpr h2
      refine gp_pu (st' := .int (0) :: _) dX9_isAsked_54 rfl ?_
      refine gp_zret dX9_isAsked_55 rfl (by first | exact Or.inl rfl | exact Or.inr rfl | assumption) ?_
      first | exact ⟨rfl, rfl⟩ | exact ⟨by rw [bi_t (by assumption)], rfl⟩ | exact ⟨by rw [bi_f (by assumption)], rfl⟩ | exact ⟨by rw [bi_t ⟨by assumption, by assumption⟩], rfl⟩ | exact ⟨by rw [bi_f (by rintro ⟨q1, q2⟩; contradiction)], rfl⟩
    · have h2' := Int32.not_lt.mp h2
      refine gp_iload_n dX9_isAsked_14 rfl ?_
      refine gp_iload_n dX9_isAsked_15 rfl ?_
      refine gp_ifc (t := 25) dX9_isAsked_16 (by decide) c1_ne (fun h3 => ?_) (fun h3 => ?_)
      · exact absurd h3 (by decide)
      · refine gp_pu (st' := .int (200) :: _) dX9_isAsked_19 rfl ?_
        refine gp_goto (t := 47) dX9_isAsked_22 (by decide) ?_
        refine gp_icc (t := 54) dX9_isAsked_47 (by decide) c2_gt (fun h4 => ?_) (fun h4 => ?_)
        · have h4' := Int32.not_le.mpr h4
          refine gp_pu (st' := .int (0) :: _) dX9_isAsked_54 rfl ?_
          refine gp_zret dX9_isAsked_55 rfl (by first | exact Or.inl rfl | exact Or.inr rfl | assumption) ?_
          first | exact ⟨rfl, rfl⟩ | exact ⟨by rw [bi_t (by assumption)], rfl⟩ | exact ⟨by rw [bi_f (by assumption)], rfl⟩ | exact ⟨by rw [bi_t ⟨by assumption, by assumption⟩], rfl⟩ | exact ⟨by rw [bi_f (by rintro ⟨q1, q2⟩; contradiction)], rfl⟩
        · have h4' := Int32.not_lt.mp h4
          refine gp_pu (st' := .int (1) :: _) dX9_isAsked_50 rfl ?_
          refine gp_goto (t := 55) dX9_isAsked_51 (by decide) ?_
          refine gp_zret dX9_isAsked_55 rfl (by first | exact Or.inl rfl | exact Or.inr rfl | assumption) ?_
          first | exact ⟨rfl, rfl⟩ | exact ⟨by rw [bi_t (by assumption)], rfl⟩ | exact ⟨by rw [bi_f (by assumption)], rfl⟩ | exact ⟨by rw [bi_t ⟨by assumption, by assumption⟩], rfl⟩ | exact ⟨by rw [bi_f (by rintro ⟨q1, q2⟩; contradiction)], rfl⟩

set_option maxHeartbeats 400000 in
theorem as_1 (d : Nat) (M : mm_M) (x : Int32) : mm_Call (d + 1) 150 [.ref 108, .int (1), .int x] M (some (.int (bi (1 ≤ x ∧ x ≤ 20)))) M := by
  refine cP.call ?_
  refine cP.of_gP (d := d + 0) me_150 ⟨Nat.le_of_ble_eq_true rfl, rfl⟩ ?_
  show gP mm_cs0 _ _ _ _ _ _ [some (.ref _), some (.int _), some (.int _)] [] _ _
  refine gp_iload_n dX9_isAsked_0 rfl ?_
  refine gp_iload_n dX9_isAsked_1 rfl ?_
  refine gp_pu (st' := .int (2) :: _) dX9_isAsked_2 rfl ?_
  refine gp_icc (t := 10) dX9_isAsked_3 (by decide) c2_ge (fun h1 => ?_) (fun h1 => ?_)
  · exact absurd h1 (by decide)
  · have h1' := Int32.not_le.mp h1
    refine gp_pu (st' := .int (1) :: _) dX9_isAsked_6 rfl ?_
    refine gp_goto (t := 11) dX9_isAsked_7 (by decide) ?_
    refine gp_icc (t := 54) dX9_isAsked_11 (by decide) c2_lt (fun h2 => ?_) (fun h2 => ?_)
    · have h2' := Int32.not_le.mpr h2
      refine gp_pu (st' := .int (0) :: _) dX9_isAsked_54 rfl ?_
      refine gp_zret dX9_isAsked_55 rfl (by first | exact Or.inl rfl | exact Or.inr rfl | assumption) ?_
      first | exact ⟨rfl, rfl⟩ | exact ⟨by rw [bi_t (by assumption)], rfl⟩ | exact ⟨by rw [bi_f (by assumption)], rfl⟩ | exact ⟨by rw [bi_t ⟨by assumption, by assumption⟩], rfl⟩ | exact ⟨by rw [bi_f (by rintro ⟨q1, q2⟩; contradiction)], rfl⟩
    · have h2' := Int32.not_lt.mp h2
      refine gp_iload_n dX9_isAsked_14 rfl ?_
      refine gp_iload_n dX9_isAsked_15 rfl ?_
      refine gp_ifc (t := 25) dX9_isAsked_16 (by decide) c1_ne (fun h3 => ?_) (fun h3 => ?_)
      · refine gp_iload_n dX9_isAsked_25 rfl ?_
        refine gp_pu (st' := .int (1) :: _) dX9_isAsked_26 rfl ?_
        refine gp_icc (t := 35) dX9_isAsked_27 (by decide) c2_ne (fun h4 => ?_) (fun h4 => ?_)
        · exact absurd h4 (by decide)
        · refine gp_pu (st' := .int (20) :: _) dX9_isAsked_30 rfl ?_
          refine gp_goto (t := 47) dX9_isAsked_32 (by decide) ?_
          refine gp_icc (t := 54) dX9_isAsked_47 (by decide) c2_gt (fun h5 => ?_) (fun h5 => ?_)
          · have h5' := Int32.not_le.mpr h5
            refine gp_pu (st' := .int (0) :: _) dX9_isAsked_54 rfl ?_
            refine gp_zret dX9_isAsked_55 rfl (by first | exact Or.inl rfl | exact Or.inr rfl | assumption) ?_
            first | exact ⟨rfl, rfl⟩ | exact ⟨by rw [bi_t (by assumption)], rfl⟩ | exact ⟨by rw [bi_f (by assumption)], rfl⟩ | exact ⟨by rw [bi_t ⟨by assumption, by assumption⟩], rfl⟩ | exact ⟨by rw [bi_f (by rintro ⟨q1, q2⟩; contradiction)], rfl⟩
          · have h5' := Int32.not_lt.mp h5
            refine gp_pu (st' := .int (1) :: _) dX9_isAsked_50 rfl ?_
            refine gp_goto (t := 55) dX9_isAsked_51 (by decide) ?_
            refine gp_zret dX9_isAsked_55 rfl (by first | exact Or.inl rfl | exact Or.inr rfl | assumption) ?_
            first | exact ⟨rfl, rfl⟩ | exact ⟨by rw [bi_t (by assumption)], rfl⟩ | exact ⟨by rw [bi_f (by assumption)], rfl⟩ | exact ⟨by rw [bi_t ⟨by assumption, by assumption⟩], rfl⟩ | exact ⟨by rw [bi_f (by rintro ⟨q1, q2⟩; contradiction)], rfl⟩
      · exact absurd (by decide) h3

set_option maxHeartbeats 400000 in
theorem as_2 (d : Nat) (M : mm_M) (x : Int32) : mm_Call (d + 1) 150 [.ref 108, .int (2), .int x] M (some (.int (bi (0 ≤ x ∧ x ≤ 9)))) M := by
  refine cP.call ?_
  refine cP.of_gP (d := d + 0) me_150 ⟨Nat.le_of_ble_eq_true rfl, rfl⟩ ?_
  show gP mm_cs0 _ _ _ _ _ _ [some (.ref _), some (.int _), some (.int _)] [] _ _
  refine gp_iload_n dX9_isAsked_0 rfl ?_
  refine gp_iload_n dX9_isAsked_1 rfl ?_
  refine gp_pu (st' := .int (2) :: _) dX9_isAsked_2 rfl ?_
  refine gp_icc (t := 10) dX9_isAsked_3 (by decide) c2_ge (fun h1 => ?_) (fun h1 => ?_)
  · have h1' := Int32.not_lt.mpr h1
    refine gp_pu (st' := .int (0) :: _) dX9_isAsked_10 rfl ?_
    refine gp_icc (t := 54) dX9_isAsked_11 (by decide) c2_lt (fun h2 => ?_) (fun h2 => ?_)
    · have h2' := Int32.not_le.mpr h2
      refine gp_pu (st' := .int (0) :: _) dX9_isAsked_54 rfl ?_
      refine gp_zret dX9_isAsked_55 rfl (by first | exact Or.inl rfl | exact Or.inr rfl | assumption) ?_
      first | exact ⟨rfl, rfl⟩ | exact ⟨by rw [bi_t (by assumption)], rfl⟩ | exact ⟨by rw [bi_f (by assumption)], rfl⟩ | exact ⟨by rw [bi_t ⟨by assumption, by assumption⟩], rfl⟩ | exact ⟨by rw [bi_f (by rintro ⟨q1, q2⟩; contradiction)], rfl⟩
    · have h2' := Int32.not_lt.mp h2
      refine gp_iload_n dX9_isAsked_14 rfl ?_
      refine gp_iload_n dX9_isAsked_15 rfl ?_
      refine gp_ifc (t := 25) dX9_isAsked_16 (by decide) c1_ne (fun h3 => ?_) (fun h3 => ?_)
      · refine gp_iload_n dX9_isAsked_25 rfl ?_
        refine gp_pu (st' := .int (1) :: _) dX9_isAsked_26 rfl ?_
        refine gp_icc (t := 35) dX9_isAsked_27 (by decide) c2_ne (fun h4 => ?_) (fun h4 => ?_)
        · refine gp_iload_n dX9_isAsked_35 rfl ?_
          refine gp_pu (st' := .int (2) :: _) dX9_isAsked_36 rfl ?_
          refine gp_icc (t := 45) dX9_isAsked_37 (by decide) c2_ne (fun h5 => ?_) (fun h5 => ?_)
          · exact absurd h5 (by decide)
          · refine gp_pu (st' := .int (9) :: _) dX9_isAsked_40 rfl ?_
            refine gp_goto (t := 47) dX9_isAsked_42 (by decide) ?_
            refine gp_icc (t := 54) dX9_isAsked_47 (by decide) c2_gt (fun h6 => ?_) (fun h6 => ?_)
            · have h6' := Int32.not_le.mpr h6
              refine gp_pu (st' := .int (0) :: _) dX9_isAsked_54 rfl ?_
              refine gp_zret dX9_isAsked_55 rfl (by first | exact Or.inl rfl | exact Or.inr rfl | assumption) ?_
              first | exact ⟨rfl, rfl⟩ | exact ⟨by rw [bi_t (by assumption)], rfl⟩ | exact ⟨by rw [bi_f (by assumption)], rfl⟩ | exact ⟨by rw [bi_t ⟨by assumption, by assumption⟩], rfl⟩ | exact ⟨by rw [bi_f (by rintro ⟨q1, q2⟩; contradiction)], rfl⟩
            · have h6' := Int32.not_lt.mp h6
              refine gp_pu (st' := .int (1) :: _) dX9_isAsked_50 rfl ?_
              refine gp_goto (t := 55) dX9_isAsked_51 (by decide) ?_
              refine gp_zret dX9_isAsked_55 rfl (by first | exact Or.inl rfl | exact Or.inr rfl | assumption) ?_
              first | exact ⟨rfl, rfl⟩ | exact ⟨by rw [bi_t (by assumption)], rfl⟩ | exact ⟨by rw [bi_f (by assumption)], rfl⟩ | exact ⟨by rw [bi_t ⟨by assumption, by assumption⟩], rfl⟩ | exact ⟨by rw [bi_f (by rintro ⟨q1, q2⟩; contradiction)], rfl⟩
        · exact absurd (by decide) h4
      · exact absurd (by decide) h3
  · exact absurd (by decide) h1

set_option maxHeartbeats 400000 in
theorem as_3 (d : Nat) (M : mm_M) (x : Int32) : mm_Call (d + 1) 150 [.ref 108, .int (3), .int x] M (some (.int (bi (0 ≤ x ∧ x ≤ 60)))) M := by
  refine cP.call ?_
  refine cP.of_gP (d := d + 0) me_150 ⟨Nat.le_of_ble_eq_true rfl, rfl⟩ ?_
  show gP mm_cs0 _ _ _ _ _ _ [some (.ref _), some (.int _), some (.int _)] [] _ _
  refine gp_iload_n dX9_isAsked_0 rfl ?_
  refine gp_iload_n dX9_isAsked_1 rfl ?_
  refine gp_pu (st' := .int (2) :: _) dX9_isAsked_2 rfl ?_
  refine gp_icc (t := 10) dX9_isAsked_3 (by decide) c2_ge (fun h1 => ?_) (fun h1 => ?_)
  · have h1' := Int32.not_lt.mpr h1
    refine gp_pu (st' := .int (0) :: _) dX9_isAsked_10 rfl ?_
    refine gp_icc (t := 54) dX9_isAsked_11 (by decide) c2_lt (fun h2 => ?_) (fun h2 => ?_)
    · have h2' := Int32.not_le.mpr h2
      refine gp_pu (st' := .int (0) :: _) dX9_isAsked_54 rfl ?_
      refine gp_zret dX9_isAsked_55 rfl (by first | exact Or.inl rfl | exact Or.inr rfl | assumption) ?_
      first | exact ⟨rfl, rfl⟩ | exact ⟨by rw [bi_t (by assumption)], rfl⟩ | exact ⟨by rw [bi_f (by assumption)], rfl⟩ | exact ⟨by rw [bi_t ⟨by assumption, by assumption⟩], rfl⟩ | exact ⟨by rw [bi_f (by rintro ⟨q1, q2⟩; contradiction)], rfl⟩
    · have h2' := Int32.not_lt.mp h2
      refine gp_iload_n dX9_isAsked_14 rfl ?_
      refine gp_iload_n dX9_isAsked_15 rfl ?_
      refine gp_ifc (t := 25) dX9_isAsked_16 (by decide) c1_ne (fun h3 => ?_) (fun h3 => ?_)
      · refine gp_iload_n dX9_isAsked_25 rfl ?_
        refine gp_pu (st' := .int (1) :: _) dX9_isAsked_26 rfl ?_
        refine gp_icc (t := 35) dX9_isAsked_27 (by decide) c2_ne (fun h4 => ?_) (fun h4 => ?_)
        · refine gp_iload_n dX9_isAsked_35 rfl ?_
          refine gp_pu (st' := .int (2) :: _) dX9_isAsked_36 rfl ?_
          refine gp_icc (t := 45) dX9_isAsked_37 (by decide) c2_ne (fun h5 => ?_) (fun h5 => ?_)
          · refine gp_pu (st' := .int (60) :: _) dX9_isAsked_45 rfl ?_
            refine gp_icc (t := 54) dX9_isAsked_47 (by decide) c2_gt (fun h6 => ?_) (fun h6 => ?_)
            · have h6' := Int32.not_le.mpr h6
              refine gp_pu (st' := .int (0) :: _) dX9_isAsked_54 rfl ?_
              refine gp_zret dX9_isAsked_55 rfl (by first | exact Or.inl rfl | exact Or.inr rfl | assumption) ?_
              first | exact ⟨rfl, rfl⟩ | exact ⟨by rw [bi_t (by assumption)], rfl⟩ | exact ⟨by rw [bi_f (by assumption)], rfl⟩ | exact ⟨by rw [bi_t ⟨by assumption, by assumption⟩], rfl⟩ | exact ⟨by rw [bi_f (by rintro ⟨q1, q2⟩; contradiction)], rfl⟩
            · have h6' := Int32.not_lt.mp h6
              refine gp_pu (st' := .int (1) :: _) dX9_isAsked_50 rfl ?_
              refine gp_goto (t := 55) dX9_isAsked_51 (by decide) ?_
              refine gp_zret dX9_isAsked_55 rfl (by first | exact Or.inl rfl | exact Or.inr rfl | assumption) ?_
              first | exact ⟨rfl, rfl⟩ | exact ⟨by rw [bi_t (by assumption)], rfl⟩ | exact ⟨by rw [bi_f (by assumption)], rfl⟩ | exact ⟨by rw [bi_t ⟨by assumption, by assumption⟩], rfl⟩ | exact ⟨by rw [bi_f (by rintro ⟨q1, q2⟩; contradiction)], rfl⟩
          · exact absurd (by decide) h5
        · exact absurd (by decide) h4
      · exact absurd (by decide) h3
  · exact absurd (by decide) h1

set_option maxHeartbeats 400000 in
theorem so_0_0 (d : Nat) (J : pI) (L : pL) {x : Int32} (hx : J 108 31 = x) : mm_Call (d + 2) 160 [.ref 108, .int (0), .int (0)] (mm_sh, mm_R, J, L) (some (.int (bi (x ≤ 6)))) (mm_sh, mm_R, J, L) := by
  refine cP.call ?_
  refine cP.of_gP (d := d + 1) me_160 ⟨Nat.le_of_ble_eq_true rfl, rfl⟩ ?_
  show gP mm_cs0 _ _ _ _ _ _ [some (.ref _), some (.int _), some (.int _)] [] _ _
  refine gp_iload_n dX9_isSo_0 rfl ?_
  refine gp_ts (t := 32) dX9_isSo_1 rfl (by decide) ?_
  refine gp_iload_n dX9_isSo_32 rfl ?_
  refine gp_ifc (t := 53) dX9_isSo_33 (by decide) c1_ne (fun h1 => ?_) (fun h1 => ?_)
  · exact absurd h1 (by decide)
  · refine gp_aload_n dX9_isSo_36 rfl ?_
    refine gp_giv dX9_isSo_37 mf_9_185 (by decide) (by first | rfl | assumption | (simp only [*]; done)) (by first | exact hx | exact rfl) ?_
    refine gp_pu (st' := .int (6) :: _) dX9_isSo_40 rfl ?_
    refine gp_icc (t := 49) dX9_isSo_42 (by decide) c2_gt (fun h2 => ?_) (fun h2 => ?_)
    · have h2' := Int32.not_le.mpr h2
      refine gp_pu (st' := .int (0) :: _) dX9_isSo_49 rfl ?_
      refine gp_goto (t := 97) dX9_isSo_50 (by decide) ?_
      refine gp_zret dX9_isSo_97 rfl (by first | exact Or.inl rfl | exact Or.inr rfl | assumption) ?_
      first | exact ⟨rfl, rfl⟩ | exact ⟨by rw [bi_t (by assumption)], rfl⟩ | exact ⟨by rw [bi_f (by assumption)], rfl⟩ | exact ⟨by rw [bi_t ⟨by assumption, by assumption⟩], rfl⟩ | exact ⟨by rw [bi_f (by rintro ⟨q1, q2⟩; contradiction)], rfl⟩
    · have h2' := Int32.not_lt.mp h2
      refine gp_pu (st' := .int (1) :: _) dX9_isSo_45 rfl ?_
      refine gp_goto (t := 97) dX9_isSo_46 (by decide) ?_
      refine gp_zret dX9_isSo_97 rfl (by first | exact Or.inl rfl | exact Or.inr rfl | assumption) ?_
      first | exact ⟨rfl, rfl⟩ | exact ⟨by rw [bi_t (by assumption)], rfl⟩ | exact ⟨by rw [bi_f (by assumption)], rfl⟩ | exact ⟨by rw [bi_t ⟨by assumption, by assumption⟩], rfl⟩ | exact ⟨by rw [bi_f (by rintro ⟨q1, q2⟩; contradiction)], rfl⟩

set_option maxHeartbeats 400000 in
theorem so_0_1 (d : Nat) (J : pI) (L : pL) {x : Int32} (hx : J 108 31 = x) : mm_Call (d + 2) 160 [.ref 108, .int (0), .int (1)] (mm_sh, mm_R, J, L) (some (.int (bi (x ≤ 9)))) (mm_sh, mm_R, J, L) := by
  refine cP.call ?_
  refine cP.of_gP (d := d + 1) me_160 ⟨Nat.le_of_ble_eq_true rfl, rfl⟩ ?_
  show gP mm_cs0 _ _ _ _ _ _ [some (.ref _), some (.int _), some (.int _)] [] _ _
  refine gp_iload_n dX9_isSo_0 rfl ?_
  refine gp_ts (t := 32) dX9_isSo_1 rfl (by decide) ?_
  refine gp_iload_n dX9_isSo_32 rfl ?_
  refine gp_ifc (t := 53) dX9_isSo_33 (by decide) c1_ne (fun h1 => ?_) (fun h1 => ?_)
  · refine gp_iload_n dX9_isSo_53 rfl ?_
    refine gp_pu (st' := .int (1) :: _) dX9_isSo_54 rfl ?_
    refine gp_icc (t := 75) dX9_isSo_55 (by decide) c2_ne (fun h2 => ?_) (fun h2 => ?_)
    · exact absurd h2 (by decide)
    · refine gp_aload_n dX9_isSo_58 rfl ?_
      refine gp_giv dX9_isSo_59 mf_9_185 (by decide) (by first | rfl | assumption | (simp only [*]; done)) (by first | exact hx | exact rfl) ?_
      refine gp_pu (st' := .int (9) :: _) dX9_isSo_62 rfl ?_
      refine gp_icc (t := 71) dX9_isSo_64 (by decide) c2_gt (fun h3 => ?_) (fun h3 => ?_)
      · have h3' := Int32.not_le.mpr h3
        refine gp_pu (st' := .int (0) :: _) dX9_isSo_71 rfl ?_
        refine gp_goto (t := 97) dX9_isSo_72 (by decide) ?_
        refine gp_zret dX9_isSo_97 rfl (by first | exact Or.inl rfl | exact Or.inr rfl | assumption) ?_
        first | exact ⟨rfl, rfl⟩ | exact ⟨by rw [bi_t (by assumption)], rfl⟩ | exact ⟨by rw [bi_f (by assumption)], rfl⟩ | exact ⟨by rw [bi_t ⟨by assumption, by assumption⟩], rfl⟩ | exact ⟨by rw [bi_f (by rintro ⟨q1, q2⟩; contradiction)], rfl⟩
      · have h3' := Int32.not_lt.mp h3
        refine gp_pu (st' := .int (1) :: _) dX9_isSo_67 rfl ?_
        refine gp_goto (t := 97) dX9_isSo_68 (by decide) ?_
        refine gp_zret dX9_isSo_97 rfl (by first | exact Or.inl rfl | exact Or.inr rfl | assumption) ?_
        first | exact ⟨rfl, rfl⟩ | exact ⟨by rw [bi_t (by assumption)], rfl⟩ | exact ⟨by rw [bi_f (by assumption)], rfl⟩ | exact ⟨by rw [bi_t ⟨by assumption, by assumption⟩], rfl⟩ | exact ⟨by rw [bi_f (by rintro ⟨q1, q2⟩; contradiction)], rfl⟩
  · exact absurd (by decide) h1

set_option maxHeartbeats 400000 in
theorem so_0_2 (d : Nat) (J : pI) (L : pL) {x : Int32} (hx : J 108 31 = x) : mm_Call (d + 2) 160 [.ref 108, .int (0), .int (2)] (mm_sh, mm_R, J, L) (some (.int (bi (1 ≤ x ∧ x ≤ 9)))) (mm_sh, mm_R, J, L) := by
  refine cP.call ?_
  refine cP.of_gP (d := d + 1) me_160 ⟨Nat.le_of_ble_eq_true rfl, rfl⟩ ?_
  show gP mm_cs0 _ _ _ _ _ _ [some (.ref _), some (.int _), some (.int _)] [] _ _
  refine gp_iload_n dX9_isSo_0 rfl ?_
  refine gp_ts (t := 32) dX9_isSo_1 rfl (by decide) ?_
  refine gp_iload_n dX9_isSo_32 rfl ?_
  refine gp_ifc (t := 53) dX9_isSo_33 (by decide) c1_ne (fun h1 => ?_) (fun h1 => ?_)
  · refine gp_iload_n dX9_isSo_53 rfl ?_
    refine gp_pu (st' := .int (1) :: _) dX9_isSo_54 rfl ?_
    refine gp_icc (t := 75) dX9_isSo_55 (by decide) c2_ne (fun h2 => ?_) (fun h2 => ?_)
    · refine gp_aload_n dX9_isSo_75 rfl ?_
      refine gp_giv dX9_isSo_76 mf_9_185 (by decide) (by first | rfl | assumption | (simp only [*]; done)) (by first | exact hx | exact rfl) ?_
      refine gp_pu (st' := .int (1) :: _) dX9_isSo_79 rfl ?_
      refine gp_icc (t := 96) dX9_isSo_80 (by decide) c2_lt (fun h3 => ?_) (fun h3 => ?_)
      · have h3' := Int32.not_le.mpr h3
        refine gp_pu (st' := .int (0) :: _) dX9_isSo_96 rfl ?_
        refine gp_zret dX9_isSo_97 rfl (by first | exact Or.inl rfl | exact Or.inr rfl | assumption) ?_
        first | exact ⟨rfl, rfl⟩ | exact ⟨by rw [bi_t (by assumption)], rfl⟩ | exact ⟨by rw [bi_f (by assumption)], rfl⟩ | exact ⟨by rw [bi_t ⟨by assumption, by assumption⟩], rfl⟩ | exact ⟨by rw [bi_f (by rintro ⟨q1, q2⟩; contradiction)], rfl⟩
      · have h3' := Int32.not_lt.mp h3
        refine gp_aload_n dX9_isSo_83 rfl ?_
        refine gp_giv dX9_isSo_84 mf_9_185 (by decide) (by first | rfl | assumption | (simp only [*]; done)) (by first | exact hx | exact rfl) ?_
        refine gp_pu (st' := .int (9) :: _) dX9_isSo_87 rfl ?_
        refine gp_icc (t := 96) dX9_isSo_89 (by decide) c2_gt (fun h4 => ?_) (fun h4 => ?_)
        · have h4' := Int32.not_le.mpr h4
          refine gp_pu (st' := .int (0) :: _) dX9_isSo_96 rfl ?_
          refine gp_zret dX9_isSo_97 rfl (by first | exact Or.inl rfl | exact Or.inr rfl | assumption) ?_
          first | exact ⟨rfl, rfl⟩ | exact ⟨by rw [bi_t (by assumption)], rfl⟩ | exact ⟨by rw [bi_f (by assumption)], rfl⟩ | exact ⟨by rw [bi_t ⟨by assumption, by assumption⟩], rfl⟩ | exact ⟨by rw [bi_f (by rintro ⟨q1, q2⟩; contradiction)], rfl⟩
        · have h4' := Int32.not_lt.mp h4
          refine gp_pu (st' := .int (1) :: _) dX9_isSo_92 rfl ?_
          refine gp_goto (t := 97) dX9_isSo_93 (by decide) ?_
          refine gp_zret dX9_isSo_97 rfl (by first | exact Or.inl rfl | exact Or.inr rfl | assumption) ?_
          first | exact ⟨rfl, rfl⟩ | exact ⟨by rw [bi_t (by assumption)], rfl⟩ | exact ⟨by rw [bi_f (by assumption)], rfl⟩ | exact ⟨by rw [bi_t ⟨by assumption, by assumption⟩], rfl⟩ | exact ⟨by rw [bi_f (by rintro ⟨q1, q2⟩; contradiction)], rfl⟩
    · exact absurd (by decide) h2
  · exact absurd (by decide) h1

set_option maxHeartbeats 400000 in
theorem so_1_0 (d : Nat) (J : pI) (L : pL) {x : Int32} (hx : J 108 31 = x) : mm_Call (d + 2) 160 [.ref 108, .int (1), .int (0)] (mm_sh, mm_R, J, L) (some (.int (bi (1 ≤ x ∧ x ≤ 9)))) (mm_sh, mm_R, J, L) := by
  refine cP.call ?_
  refine cP.of_gP (d := d + 1) me_160 ⟨Nat.le_of_ble_eq_true rfl, rfl⟩ ?_
  show gP mm_cs0 _ _ _ _ _ _ [some (.ref _), some (.int _), some (.int _)] [] _ _
  refine gp_iload_n dX9_isSo_0 rfl ?_
  refine gp_ts (t := 98) dX9_isSo_1 rfl (by decide) ?_
  refine gp_aload_n dX9_isSo_98 rfl ?_
  refine gp_giv dX9_isSo_99 mf_9_185 (by decide) (by first | rfl | assumption | (simp only [*]; done)) (by first | exact hx | exact rfl) ?_
  refine gp_pu (st' := .int (9) :: _) dX9_isSo_102 rfl ?_
  refine gp_icc (t := 124) dX9_isSo_104 (by decide) c2_gt (fun h1 => ?_) (fun h1 => ?_)
  · have h1' := Int32.not_le.mpr h1
    refine gp_pu (st' := .int (0) :: _) dX9_isSo_124 rfl ?_
    refine gp_zret dX9_isSo_125 rfl (by first | exact Or.inl rfl | exact Or.inr rfl | assumption) ?_
    first | exact ⟨rfl, rfl⟩ | exact ⟨by rw [bi_t (by assumption)], rfl⟩ | exact ⟨by rw [bi_f (by assumption)], rfl⟩ | exact ⟨by rw [bi_t ⟨by assumption, by assumption⟩], rfl⟩ | exact ⟨by rw [bi_f (by rintro ⟨q1, q2⟩; contradiction)], rfl⟩
  · have h1' := Int32.not_lt.mp h1
    refine gp_iload_n dX9_isSo_107 rfl ?_
    refine gp_pu (st' := .int (1) :: _) dX9_isSo_108 rfl ?_
    refine gp_icc (t := 120) dX9_isSo_109 (by decide) c2_eq (fun h2 => ?_) (fun h2 => ?_)
    · exact absurd h2 (by decide)
    · refine gp_aload_n dX9_isSo_112 rfl ?_
      refine gp_giv dX9_isSo_113 mf_9_185 (by decide) (by first | rfl | assumption | (simp only [*]; done)) (by first | exact hx | exact rfl) ?_
      refine gp_pu (st' := .int (1) :: _) dX9_isSo_116 rfl ?_
      refine gp_icc (t := 124) dX9_isSo_117 (by decide) c2_lt (fun h3 => ?_) (fun h3 => ?_)
      · have h3' := Int32.not_le.mpr h3
        refine gp_pu (st' := .int (0) :: _) dX9_isSo_124 rfl ?_
        refine gp_zret dX9_isSo_125 rfl (by first | exact Or.inl rfl | exact Or.inr rfl | assumption) ?_
        first | exact ⟨rfl, rfl⟩ | exact ⟨by rw [bi_t (by assumption)], rfl⟩ | exact ⟨by rw [bi_f (by assumption)], rfl⟩ | exact ⟨by rw [bi_t ⟨by assumption, by assumption⟩], rfl⟩ | exact ⟨by rw [bi_f (by rintro ⟨q1, q2⟩; contradiction)], rfl⟩
      · have h3' := Int32.not_lt.mp h3
        refine gp_pu (st' := .int (1) :: _) dX9_isSo_120 rfl ?_
        refine gp_goto (t := 125) dX9_isSo_121 (by decide) ?_
        refine gp_zret dX9_isSo_125 rfl (by first | exact Or.inl rfl | exact Or.inr rfl | assumption) ?_
        first | exact ⟨rfl, rfl⟩ | exact ⟨by rw [bi_t (by assumption)], rfl⟩ | exact ⟨by rw [bi_f (by assumption)], rfl⟩ | exact ⟨by rw [bi_t ⟨by assumption, by assumption⟩], rfl⟩ | exact ⟨by rw [bi_f (by rintro ⟨q1, q2⟩; contradiction)], rfl⟩

set_option maxHeartbeats 400000 in
theorem so_1_1 (d : Nat) (J : pI) (L : pL) {x : Int32} (hx : J 108 31 = x) : mm_Call (d + 2) 160 [.ref 108, .int (1), .int (1)] (mm_sh, mm_R, J, L) (some (.int (bi (x ≤ 9)))) (mm_sh, mm_R, J, L) := by
  refine cP.call ?_
  refine cP.of_gP (d := d + 1) me_160 ⟨Nat.le_of_ble_eq_true rfl, rfl⟩ ?_
  show gP mm_cs0 _ _ _ _ _ _ [some (.ref _), some (.int _), some (.int _)] [] _ _
  refine gp_iload_n dX9_isSo_0 rfl ?_
  refine gp_ts (t := 98) dX9_isSo_1 rfl (by decide) ?_
  refine gp_aload_n dX9_isSo_98 rfl ?_
  refine gp_giv dX9_isSo_99 mf_9_185 (by decide) (by first | rfl | assumption | (simp only [*]; done)) (by first | exact hx | exact rfl) ?_
  refine gp_pu (st' := .int (9) :: _) dX9_isSo_102 rfl ?_
  refine gp_icc (t := 124) dX9_isSo_104 (by decide) c2_gt (fun h1 => ?_) (fun h1 => ?_)
  · have h1' := Int32.not_le.mpr h1
    refine gp_pu (st' := .int (0) :: _) dX9_isSo_124 rfl ?_
    refine gp_zret dX9_isSo_125 rfl (by first | exact Or.inl rfl | exact Or.inr rfl | assumption) ?_
    first | exact ⟨rfl, rfl⟩ | exact ⟨by rw [bi_t (by assumption)], rfl⟩ | exact ⟨by rw [bi_f (by assumption)], rfl⟩ | exact ⟨by rw [bi_t ⟨by assumption, by assumption⟩], rfl⟩ | exact ⟨by rw [bi_f (by rintro ⟨q1, q2⟩; contradiction)], rfl⟩
  · have h1' := Int32.not_lt.mp h1
    refine gp_iload_n dX9_isSo_107 rfl ?_
    refine gp_pu (st' := .int (1) :: _) dX9_isSo_108 rfl ?_
    refine gp_icc (t := 120) dX9_isSo_109 (by decide) c2_eq (fun h2 => ?_) (fun h2 => ?_)
    · refine gp_pu (st' := .int (1) :: _) dX9_isSo_120 rfl ?_
      refine gp_goto (t := 125) dX9_isSo_121 (by decide) ?_
      refine gp_zret dX9_isSo_125 rfl (by first | exact Or.inl rfl | exact Or.inr rfl | assumption) ?_
      first | exact ⟨rfl, rfl⟩ | exact ⟨by rw [bi_t (by assumption)], rfl⟩ | exact ⟨by rw [bi_f (by assumption)], rfl⟩ | exact ⟨by rw [bi_t ⟨by assumption, by assumption⟩], rfl⟩ | exact ⟨by rw [bi_f (by rintro ⟨q1, q2⟩; contradiction)], rfl⟩
    · exact absurd (by decide) h2

set_option maxHeartbeats 400000 in
theorem so_2_0 (d : Nat) (J : pI) (L : pL) {x : Int32} (hx : J 108 31 = x) : mm_Call (d + 2) 160 [.ref 108, .int (2), .int (0)] (mm_sh, mm_R, J, L) (some (.int (bi (x < J 108 0)))) (mm_sh, mm_R, J, L) := by
  refine cP.call ?_
  refine cP.of_gP (d := d + 1) me_160 ⟨Nat.le_of_ble_eq_true rfl, rfl⟩ ?_
  show gP mm_cs0 _ _ _ _ _ _ [some (.ref _), some (.int _), some (.int _)] [] _ _
  refine gp_iload_n dX9_isSo_0 rfl ?_
  refine gp_ts (t := 126) dX9_isSo_1 rfl (by decide) ?_
  refine gp_aload_n dX9_isSo_126 rfl ?_
  refine gp_giv dX9_isSo_127 mf_9_185 (by decide) (by first | rfl | assumption | (simp only [*]; done)) (by first | exact hx | exact rfl) ?_
  refine gp_iload_n dX9_isSo_130 rfl ?_
  refine gp_ifc (t := 141) dX9_isSo_131 (by decide) c1_ne (fun h1 => ?_) (fun h1 => ?_)
  · exact absurd h1 (by decide)
  · refine gp_aload_n dX9_isSo_134 rfl ?_
    refine gp_giv dX9_isSo_135 mf_9_117 (by decide) (by first | rfl | assumption | (simp only [*]; done)) (by first | exact hx | exact rfl) ?_
    refine gp_goto (t := 145) dX9_isSo_138 (by decide) ?_
    refine gp_icc (t := 152) dX9_isSo_145 (by decide) c2_ge (fun h2 => ?_) (fun h2 => ?_)
    · have h2' := Int32.not_lt.mpr h2
      refine gp_pu (st' := .int (0) :: _) dX9_isSo_152 rfl ?_
      refine gp_zret dX9_isSo_153 rfl (by first | exact Or.inl rfl | exact Or.inr rfl | assumption) ?_
      first | exact ⟨rfl, rfl⟩ | exact ⟨by rw [bi_t (by assumption)], rfl⟩ | exact ⟨by rw [bi_f (by assumption)], rfl⟩ | exact ⟨by rw [bi_t ⟨by assumption, by assumption⟩], rfl⟩ | exact ⟨by rw [bi_f (by rintro ⟨q1, q2⟩; contradiction)], rfl⟩
    · have h2' := Int32.not_le.mp h2
      refine gp_pu (st' := .int (1) :: _) dX9_isSo_148 rfl ?_
      refine gp_goto (t := 153) dX9_isSo_149 (by decide) ?_
      refine gp_zret dX9_isSo_153 rfl (by first | exact Or.inl rfl | exact Or.inr rfl | assumption) ?_
      first | exact ⟨rfl, rfl⟩ | exact ⟨by rw [bi_t (by assumption)], rfl⟩ | exact ⟨by rw [bi_f (by assumption)], rfl⟩ | exact ⟨by rw [bi_t ⟨by assumption, by assumption⟩], rfl⟩ | exact ⟨by rw [bi_f (by rintro ⟨q1, q2⟩; contradiction)], rfl⟩

set_option maxHeartbeats 400000 in
theorem so_2_1 (d : Nat) (J : pI) (L : pL) {x : Int32} (hx : J 108 31 = x) : mm_Call (d + 2) 160 [.ref 108, .int (2), .int (1)] (mm_sh, mm_R, J, L) (some (.int (bi (x < J 108 1)))) (mm_sh, mm_R, J, L) := by
  refine cP.call ?_
  refine cP.of_gP (d := d + 1) me_160 ⟨Nat.le_of_ble_eq_true rfl, rfl⟩ ?_
  show gP mm_cs0 _ _ _ _ _ _ [some (.ref _), some (.int _), some (.int _)] [] _ _
  refine gp_iload_n dX9_isSo_0 rfl ?_
  refine gp_ts (t := 126) dX9_isSo_1 rfl (by decide) ?_
  refine gp_aload_n dX9_isSo_126 rfl ?_
  refine gp_giv dX9_isSo_127 mf_9_185 (by decide) (by first | rfl | assumption | (simp only [*]; done)) (by first | exact hx | exact rfl) ?_
  refine gp_iload_n dX9_isSo_130 rfl ?_
  refine gp_ifc (t := 141) dX9_isSo_131 (by decide) c1_ne (fun h1 => ?_) (fun h1 => ?_)
  · refine gp_aload_n dX9_isSo_141 rfl ?_
    refine gp_giv dX9_isSo_142 mf_9_120 (by decide) (by first | rfl | assumption | (simp only [*]; done)) (by first | exact hx | exact rfl) ?_
    refine gp_icc (t := 152) dX9_isSo_145 (by decide) c2_ge (fun h2 => ?_) (fun h2 => ?_)
    · have h2' := Int32.not_lt.mpr h2
      refine gp_pu (st' := .int (0) :: _) dX9_isSo_152 rfl ?_
      refine gp_zret dX9_isSo_153 rfl (by first | exact Or.inl rfl | exact Or.inr rfl | assumption) ?_
      first | exact ⟨rfl, rfl⟩ | exact ⟨by rw [bi_t (by assumption)], rfl⟩ | exact ⟨by rw [bi_f (by assumption)], rfl⟩ | exact ⟨by rw [bi_t ⟨by assumption, by assumption⟩], rfl⟩ | exact ⟨by rw [bi_f (by rintro ⟨q1, q2⟩; contradiction)], rfl⟩
    · have h2' := Int32.not_le.mp h2
      refine gp_pu (st' := .int (1) :: _) dX9_isSo_148 rfl ?_
      refine gp_goto (t := 153) dX9_isSo_149 (by decide) ?_
      refine gp_zret dX9_isSo_153 rfl (by first | exact Or.inl rfl | exact Or.inr rfl | assumption) ?_
      first | exact ⟨rfl, rfl⟩ | exact ⟨by rw [bi_t (by assumption)], rfl⟩ | exact ⟨by rw [bi_f (by assumption)], rfl⟩ | exact ⟨by rw [bi_t ⟨by assumption, by assumption⟩], rfl⟩ | exact ⟨by rw [bi_f (by rintro ⟨q1, q2⟩; contradiction)], rfl⟩
  · exact absurd (by decide) h1

set_option maxHeartbeats 400000 in
theorem so_3_0 (d : Nat) (J : pI) (L : pL) {x : Int32} (hx : J 108 31 = x) : mm_Call (d + 2) 160 [.ref 108, .int (3), .int (0)] (mm_sh, mm_R, J, L) (some (.int (bi (x < J 108 0)))) (mm_sh, mm_R, J, L) := by
  refine cP.call ?_
  refine cP.of_gP (d := d + 1) me_160 ⟨Nat.le_of_ble_eq_true rfl, rfl⟩ ?_
  show gP mm_cs0 _ _ _ _ _ _ [some (.ref _), some (.int _), some (.int _)] [] _ _
  refine gp_iload_n dX9_isSo_0 rfl ?_
  refine gp_ts (t := 154) dX9_isSo_1 rfl (by decide) ?_
  refine gp_iload_n dX9_isSo_154 rfl ?_
  refine gp_ifc (t := 177) dX9_isSo_155 (by decide) c1_ne (fun h1 => ?_) (fun h1 => ?_)
  · exact absurd h1 (by decide)
  · refine gp_aload_n dX9_isSo_158 rfl ?_
    refine gp_giv dX9_isSo_159 mf_9_185 (by decide) (by first | rfl | assumption | (simp only [*]; done)) (by first | exact hx | exact rfl) ?_
    refine gp_aload_n dX9_isSo_162 rfl ?_
    refine gp_giv dX9_isSo_163 mf_9_117 (by decide) (by first | rfl | assumption | (simp only [*]; done)) (by first | exact hx | exact rfl) ?_
    refine gp_icc (t := 173) dX9_isSo_166 (by decide) c2_ge (fun h2 => ?_) (fun h2 => ?_)
    · have h2' := Int32.not_lt.mpr h2
      refine gp_pu (st' := .int (0) :: _) dX9_isSo_173 rfl ?_
      refine gp_goto (t := 191) dX9_isSo_174 (by decide) ?_
      refine gp_zret dX9_isSo_191 rfl (by first | exact Or.inl rfl | exact Or.inr rfl | assumption) ?_
      first | exact ⟨rfl, rfl⟩ | exact ⟨by rw [bi_t (by assumption)], rfl⟩ | exact ⟨by rw [bi_f (by assumption)], rfl⟩ | exact ⟨by rw [bi_t ⟨by assumption, by assumption⟩], rfl⟩ | exact ⟨by rw [bi_f (by rintro ⟨q1, q2⟩; contradiction)], rfl⟩
    · have h2' := Int32.not_le.mp h2
      refine gp_pu (st' := .int (1) :: _) dX9_isSo_169 rfl ?_
      refine gp_goto (t := 191) dX9_isSo_170 (by decide) ?_
      refine gp_zret dX9_isSo_191 rfl (by first | exact Or.inl rfl | exact Or.inr rfl | assumption) ?_
      first | exact ⟨rfl, rfl⟩ | exact ⟨by rw [bi_t (by assumption)], rfl⟩ | exact ⟨by rw [bi_f (by assumption)], rfl⟩ | exact ⟨by rw [bi_t ⟨by assumption, by assumption⟩], rfl⟩ | exact ⟨by rw [bi_f (by rintro ⟨q1, q2⟩; contradiction)], rfl⟩

set_option maxHeartbeats 400000 in
theorem so_3_1 (d : Nat) (J : pI) (L : pL) {x : Int32} (hx : J 108 31 = x) : mm_Call (d + 2) 160 [.ref 108, .int (3), .int (1)] (mm_sh, mm_R, J, L) (some (.int (bi (x ≤ 99)))) (mm_sh, mm_R, J, L) := by
  refine cP.call ?_
  refine cP.of_gP (d := d + 1) me_160 ⟨Nat.le_of_ble_eq_true rfl, rfl⟩ ?_
  show gP mm_cs0 _ _ _ _ _ _ [some (.ref _), some (.int _), some (.int _)] [] _ _
  refine gp_iload_n dX9_isSo_0 rfl ?_
  refine gp_ts (t := 154) dX9_isSo_1 rfl (by decide) ?_
  refine gp_iload_n dX9_isSo_154 rfl ?_
  refine gp_ifc (t := 177) dX9_isSo_155 (by decide) c1_ne (fun h1 => ?_) (fun h1 => ?_)
  · refine gp_aload_n dX9_isSo_177 rfl ?_
    refine gp_giv dX9_isSo_178 mf_9_185 (by decide) (by first | rfl | assumption | (simp only [*]; done)) (by first | exact hx | exact rfl) ?_
    refine gp_pu (st' := .int (99) :: _) dX9_isSo_181 rfl ?_
    refine gp_icc (t := 190) dX9_isSo_183 (by decide) c2_gt (fun h2 => ?_) (fun h2 => ?_)
    · have h2' := Int32.not_le.mpr h2
      refine gp_pu (st' := .int (0) :: _) dX9_isSo_190 rfl ?_
      refine gp_zret dX9_isSo_191 rfl (by first | exact Or.inl rfl | exact Or.inr rfl | assumption) ?_
      first | exact ⟨rfl, rfl⟩ | exact ⟨by rw [bi_t (by assumption)], rfl⟩ | exact ⟨by rw [bi_f (by assumption)], rfl⟩ | exact ⟨by rw [bi_t ⟨by assumption, by assumption⟩], rfl⟩ | exact ⟨by rw [bi_f (by rintro ⟨q1, q2⟩; contradiction)], rfl⟩
    · have h2' := Int32.not_lt.mp h2
      refine gp_pu (st' := .int (1) :: _) dX9_isSo_186 rfl ?_
      refine gp_goto (t := 191) dX9_isSo_187 (by decide) ?_
      refine gp_zret dX9_isSo_191 rfl (by first | exact Or.inl rfl | exact Or.inr rfl | assumption) ?_
      first | exact ⟨rfl, rfl⟩ | exact ⟨by rw [bi_t (by assumption)], rfl⟩ | exact ⟨by rw [bi_f (by assumption)], rfl⟩ | exact ⟨by rw [bi_t ⟨by assumption, by assumption⟩], rfl⟩ | exact ⟨by rw [bi_f (by rintro ⟨q1, q2⟩; contradiction)], rfl⟩
  · exact absurd (by decide) h1

set_option maxHeartbeats 400000 in
theorem so_4_0 (d : Nat) (J : pI) (L : pL) {x : Int32} (hx : J 108 31 = x) : mm_Call (d + 2) 160 [.ref 108, .int (4), .int (0)] (mm_sh, mm_R, J, L) (some (.int (bi (1 ≤ x ∧ x ≤ 200)))) (mm_sh, mm_R, J, L) := by
  refine cP.call ?_
  refine cP.of_gP (d := d + 1) me_160 ⟨Nat.le_of_ble_eq_true rfl, rfl⟩ ?_
  show gP mm_cs0 _ _ _ _ _ _ [some (.ref _), some (.int _), some (.int _)] [] _ _
  refine gp_iload_n dX9_isSo_0 rfl ?_
  refine gp_ts (t := 192) dX9_isSo_1 rfl (by decide) ?_
  refine gp_aload_n dX9_isSo_192 rfl ?_
  refine gp_iload_n dX9_isSo_193 rfl ?_
  refine gp_pu (st' := .int (4) :: _) dX9_isSo_194 rfl ?_
  refine gp_pu (st' := .int _ :: _) dX9_isSo_195 rfl ?_
  refine gp_aload_n dX9_isSo_196 rfl ?_
  refine gp_giv dX9_isSo_197 mf_9_185 (by decide) (by first | rfl | assumption | (simp only [*]; done)) (by first | exact hx | exact rfl) ?_
  refine gp_call (kind := 1) (args := [.ref _, .int _, .int _]) (rest := _) dX9_isSo_200 (Or.inr (Or.inl ⟨rfl, rfl⟩)) mk_9_159 (by decide) me_150 rfl rfl rfl rfl rfl (mm_rc_of (by first | rfl | assumption | (simp only [*]; done))) (as_0 _ _ _) rfl ?_
  refine gp_zret dX9_isSo_203 rfl bi_01 ?_
  first | exact ⟨rfl, rfl⟩ | exact ⟨by rw [bi_t (by assumption)], rfl⟩ | exact ⟨by rw [bi_f (by assumption)], rfl⟩ | exact ⟨by rw [bi_t ⟨by assumption, by assumption⟩], rfl⟩ | exact ⟨by rw [bi_f (by rintro ⟨q1, q2⟩; contradiction)], rfl⟩

set_option maxHeartbeats 400000 in
theorem so_5_0 (d : Nat) (J : pI) (L : pL) {x : Int32} (hx : J 108 31 = x) : mm_Call (d + 2) 160 [.ref 108, .int (5), .int (0)] (mm_sh, mm_R, J, L) (some (.int (bi (1 ≤ x ∧ x ≤ 20)))) (mm_sh, mm_R, J, L) := by
  refine cP.call ?_
  refine cP.of_gP (d := d + 1) me_160 ⟨Nat.le_of_ble_eq_true rfl, rfl⟩ ?_
  show gP mm_cs0 _ _ _ _ _ _ [some (.ref _), some (.int _), some (.int _)] [] _ _
  refine gp_iload_n dX9_isSo_0 rfl ?_
  refine gp_ts (t := 192) dX9_isSo_1 rfl (by decide) ?_
  refine gp_aload_n dX9_isSo_192 rfl ?_
  refine gp_iload_n dX9_isSo_193 rfl ?_
  refine gp_pu (st' := .int (4) :: _) dX9_isSo_194 rfl ?_
  refine gp_pu (st' := .int _ :: _) dX9_isSo_195 rfl ?_
  refine gp_aload_n dX9_isSo_196 rfl ?_
  refine gp_giv dX9_isSo_197 mf_9_185 (by decide) (by first | rfl | assumption | (simp only [*]; done)) (by first | exact hx | exact rfl) ?_
  refine gp_call (kind := 1) (args := [.ref _, .int _, .int _]) (rest := _) dX9_isSo_200 (Or.inr (Or.inl ⟨rfl, rfl⟩)) mk_9_159 (by decide) me_150 rfl rfl rfl rfl rfl (mm_rc_of (by first | rfl | assumption | (simp only [*]; done))) (as_1 _ _ _) rfl ?_
  refine gp_zret dX9_isSo_203 rfl bi_01 ?_
  first | exact ⟨rfl, rfl⟩ | exact ⟨by rw [bi_t (by assumption)], rfl⟩ | exact ⟨by rw [bi_f (by assumption)], rfl⟩ | exact ⟨by rw [bi_t ⟨by assumption, by assumption⟩], rfl⟩ | exact ⟨by rw [bi_f (by rintro ⟨q1, q2⟩; contradiction)], rfl⟩

set_option maxHeartbeats 400000 in
theorem so_6_0 (d : Nat) (J : pI) (L : pL) {x : Int32} (hx : J 108 31 = x) : mm_Call (d + 2) 160 [.ref 108, .int (6), .int (0)] (mm_sh, mm_R, J, L) (some (.int (bi (0 ≤ x ∧ x ≤ 9)))) (mm_sh, mm_R, J, L) := by
  refine cP.call ?_
  refine cP.of_gP (d := d + 1) me_160 ⟨Nat.le_of_ble_eq_true rfl, rfl⟩ ?_
  show gP mm_cs0 _ _ _ _ _ _ [some (.ref _), some (.int _), some (.int _)] [] _ _
  refine gp_iload_n dX9_isSo_0 rfl ?_
  refine gp_ts (t := 192) dX9_isSo_1 rfl (by decide) ?_
  refine gp_aload_n dX9_isSo_192 rfl ?_
  refine gp_iload_n dX9_isSo_193 rfl ?_
  refine gp_pu (st' := .int (4) :: _) dX9_isSo_194 rfl ?_
  refine gp_pu (st' := .int _ :: _) dX9_isSo_195 rfl ?_
  refine gp_aload_n dX9_isSo_196 rfl ?_
  refine gp_giv dX9_isSo_197 mf_9_185 (by decide) (by first | rfl | assumption | (simp only [*]; done)) (by first | exact hx | exact rfl) ?_
  refine gp_call (kind := 1) (args := [.ref _, .int _, .int _]) (rest := _) dX9_isSo_200 (Or.inr (Or.inl ⟨rfl, rfl⟩)) mk_9_159 (by decide) me_150 rfl rfl rfl rfl rfl (mm_rc_of (by first | rfl | assumption | (simp only [*]; done))) (as_2 _ _ _) rfl ?_
  refine gp_zret dX9_isSo_203 rfl bi_01 ?_
  first | exact ⟨rfl, rfl⟩ | exact ⟨by rw [bi_t (by assumption)], rfl⟩ | exact ⟨by rw [bi_f (by assumption)], rfl⟩ | exact ⟨by rw [bi_t ⟨by assumption, by assumption⟩], rfl⟩ | exact ⟨by rw [bi_f (by rintro ⟨q1, q2⟩; contradiction)], rfl⟩

set_option maxHeartbeats 400000 in
theorem so_7_0 (d : Nat) (J : pI) (L : pL) {x : Int32} (hx : J 108 31 = x) : mm_Call (d + 2) 160 [.ref 108, .int (7), .int (0)] (mm_sh, mm_R, J, L) (some (.int (bi (0 ≤ x ∧ x ≤ 60)))) (mm_sh, mm_R, J, L) := by
  refine cP.call ?_
  refine cP.of_gP (d := d + 1) me_160 ⟨Nat.le_of_ble_eq_true rfl, rfl⟩ ?_
  show gP mm_cs0 _ _ _ _ _ _ [some (.ref _), some (.int _), some (.int _)] [] _ _
  refine gp_iload_n dX9_isSo_0 rfl ?_
  refine gp_ts (t := 192) dX9_isSo_1 rfl (by decide) ?_
  refine gp_aload_n dX9_isSo_192 rfl ?_
  refine gp_iload_n dX9_isSo_193 rfl ?_
  refine gp_pu (st' := .int (4) :: _) dX9_isSo_194 rfl ?_
  refine gp_pu (st' := .int _ :: _) dX9_isSo_195 rfl ?_
  refine gp_aload_n dX9_isSo_196 rfl ?_
  refine gp_giv dX9_isSo_197 mf_9_185 (by decide) (by first | rfl | assumption | (simp only [*]; done)) (by first | exact hx | exact rfl) ?_
  refine gp_call (kind := 1) (args := [.ref _, .int _, .int _]) (rest := _) dX9_isSo_200 (Or.inr (Or.inl ⟨rfl, rfl⟩)) mk_9_159 (by decide) me_150 rfl rfl rfl rfl rfl (mm_rc_of (by first | rfl | assumption | (simp only [*]; done))) (as_3 _ _ _) rfl ?_
  refine gp_zret dX9_isSo_203 rfl bi_01 ?_
  first | exact ⟨rfl, rfl⟩ | exact ⟨by rw [bi_t (by assumption)], rfl⟩ | exact ⟨by rw [bi_f (by assumption)], rfl⟩ | exact ⟨by rw [bi_t ⟨by assumption, by assumption⟩], rfl⟩ | exact ⟨by rw [bi_f (by rintro ⟨q1, q2⟩; contradiction)], rfl⟩

theorem pr_lm {x : Int32} {n : Nat} (hn : n ≤ 8) (h0 : wi x 0 999) : x ≤ nI n - 1 ↔ x < nI n := by
  have e : (nI n - 1).toInt = n - 1 := by rw [ti_sub (by rw [ti_nI (by omega), ti_1]; omega) (by rw [ti_nI (by omega), ti_1]; omega), ti_nI (by omega), ti_1]
  rw [ti_le, ti_lt, e, ti_nI (by omega)]
  omega

theorem ok_isSo (d : Nat) (L : pL) (v : vN V N S) (j0 : J 108 0 = V 108 0) (j1 : J 108 1 = V 108 1) {x : Int32} (hx : J 108 31 = x) (hxw : wi x 0 999) {w i : Nat} (hw : w < 8) (hi : i < y_cn w) : mm_Call (d + 2) 160 [.ref 108, .int (nI w), .int (nI i)] (mm_sh, mm_R, J, L) (some (.int (bi (y_lo w i ≤ x ∧ x ≤ y_hi V w i)))) (mm_sh, mm_R, J, L) := by
  have hx0 : 0 ≤ x := by rw [ti_le, ti_0]; exact hxw.1
  have zqw : w = 0 ∨ w = 1 ∨ w = 2 ∨ w = 3 ∨ w = 4 ∨ w = 5 ∨ w = 6 ∨ w = 7 := by omega
  rcases zqw with rfl | rfl | rfl | rfl | rfl | rfl | rfl | rfl
  · have zqi : i = 0 ∨ i = 1 ∨ i = 2 := by have : y_cn 0 = 3 := rfl; omega
    rcases zqi with rfl | rfl | rfl
    · exact (congrArg (fun y : Int32 => mm_Call (d + 2) 160 [.ref 108, .int 0, .int 0] (mm_sh, mm_R, J, L) (some (.int y)) (mm_sh, mm_R, J, L)) (bi_cg ⟨fun q => q.2, fun q => ⟨hx0, q⟩⟩)).mpr (so_0_0 d J L hx)
    · exact (congrArg (fun y : Int32 => mm_Call (d + 2) 160 [.ref 108, .int 0, .int 1] (mm_sh, mm_R, J, L) (some (.int y)) (mm_sh, mm_R, J, L)) (bi_cg ⟨fun q => q.2, fun q => ⟨hx0, q⟩⟩)).mpr (so_0_1 d J L hx)
    · exact (congrArg (fun y : Int32 => mm_Call (d + 2) 160 [.ref 108, .int 0, .int 2] (mm_sh, mm_R, J, L) (some (.int y)) (mm_sh, mm_R, J, L)) (bi_cg Iff.rfl)).mpr (so_0_2 d J L hx)
  · have zqi : i = 0 ∨ i = 1 := by have : y_cn 1 = 2 := rfl; omega
    rcases zqi with rfl | rfl
    · exact (congrArg (fun y : Int32 => mm_Call (d + 2) 160 [.ref 108, .int 1, .int 0] (mm_sh, mm_R, J, L) (some (.int y)) (mm_sh, mm_R, J, L)) (bi_cg Iff.rfl)).mpr (so_1_0 d J L hx)
    · exact (congrArg (fun y : Int32 => mm_Call (d + 2) 160 [.ref 108, .int 1, .int 1] (mm_sh, mm_R, J, L) (some (.int y)) (mm_sh, mm_R, J, L)) (bi_cg ⟨fun q => q.2, fun q => ⟨hx0, q⟩⟩)).mpr (so_1_1 d J L hx)
  · have zqi : i = 0 ∨ i = 1 := by have : y_cn 2 = 2 := rfl; omega
    rcases zqi with rfl | rfl
    · exact (congrArg (fun y : Int32 => mm_Call (d + 2) 160 [.ref 108, .int 2, .int 0] (mm_sh, mm_R, J, L) (some (.int y)) (mm_sh, mm_R, J, L)) (bi_cg ⟨fun q => (pr_lm v.1 hxw).mp (by rw [← v.2.2.1]; exact q.2) |> (fun y => by rw [j0, v.2.2.1]; exact y), fun q => ⟨hx0, by show x ≤ V 108 0 - 1; rw [v.2.2.1]; exact (pr_lm v.1 hxw).mpr (by rw [j0, v.2.2.1] at q; exact q)⟩⟩)).mpr (so_2_0 d J L hx)
    · exact (congrArg (fun y : Int32 => mm_Call (d + 2) 160 [.ref 108, .int 2, .int 1] (mm_sh, mm_R, J, L) (some (.int y)) (mm_sh, mm_R, J, L)) (bi_cg ⟨fun q => (pr_lm v.2.1 hxw).mp (by rw [← v.2.2.2.1]; exact q.2) |> (fun y => by rw [j1, v.2.2.2.1]; exact y), fun q => ⟨hx0, by show x ≤ V 108 1 - 1; rw [v.2.2.2.1]; exact (pr_lm v.2.1 hxw).mpr (by rw [j1, v.2.2.2.1] at q; exact q)⟩⟩)).mpr (so_2_1 d J L hx)
  · have zqi : i = 0 ∨ i = 1 := by have : y_cn 3 = 2 := rfl; omega
    rcases zqi with rfl | rfl
    · exact (congrArg (fun y : Int32 => mm_Call (d + 2) 160 [.ref 108, .int 3, .int 0] (mm_sh, mm_R, J, L) (some (.int y)) (mm_sh, mm_R, J, L)) (bi_cg ⟨fun q => (pr_lm v.1 hxw).mp (by rw [← v.2.2.1]; exact q.2) |> (fun y => by rw [j0, v.2.2.1]; exact y), fun q => ⟨hx0, by show x ≤ V 108 0 - 1; rw [v.2.2.1]; exact (pr_lm v.1 hxw).mpr (by rw [j0, v.2.2.1] at q; exact q)⟩⟩)).mpr (so_3_0 d J L hx)
    · exact (congrArg (fun y : Int32 => mm_Call (d + 2) 160 [.ref 108, .int 3, .int 1] (mm_sh, mm_R, J, L) (some (.int y)) (mm_sh, mm_R, J, L)) (bi_cg ⟨fun q => q.2, fun q => ⟨hx0, q⟩⟩)).mpr (so_3_1 d J L hx)
  · have zqi : i = 0 := by have : y_cn 4 = 1 := rfl; omega
    subst zqi
    exact (congrArg (fun y : Int32 => mm_Call (d + 2) 160 [.ref 108, .int 4, .int 0] (mm_sh, mm_R, J, L) (some (.int y)) (mm_sh, mm_R, J, L)) (bi_cg Iff.rfl)).mpr (so_4_0 d J L hx)
  · have zqi : i = 0 := by have : y_cn 5 = 1 := rfl; omega
    subst zqi
    exact (congrArg (fun y : Int32 => mm_Call (d + 2) 160 [.ref 108, .int 5, .int 0] (mm_sh, mm_R, J, L) (some (.int y)) (mm_sh, mm_R, J, L)) (bi_cg Iff.rfl)).mpr (so_5_0 d J L hx)
  · have zqi : i = 0 := by have : y_cn 6 = 1 := rfl; omega
    subst zqi
    exact (congrArg (fun y : Int32 => mm_Call (d + 2) 160 [.ref 108, .int 6, .int 0] (mm_sh, mm_R, J, L) (some (.int y)) (mm_sh, mm_R, J, L)) (bi_cg Iff.rfl)).mpr (so_6_0 d J L hx)
  · have zqi : i = 0 := by have : y_cn 7 = 1 := rfl; omega
    subst zqi
    exact (congrArg (fun y : Int32 => mm_Call (d + 2) 160 [.ref 108, .int 7, .int 0] (mm_sh, mm_R, J, L) (some (.int y)) (mm_sh, mm_R, J, L)) (bi_cg Iff.rfl)).mpr (so_7_0 d J L hx)

/-- digits read up to p, x by now -/
def lnv (J : pI) (p : Nat) (x : Int32) (K : pI) : Prop := (∀ k, k ≠ 108 → K k = J k) ∧ (∀ j, j ≠ 29 → j ≠ 31 → K 108 j = J 108 j) ∧ K 108 29 = nI p ∧ K 108 31 = x
theorem lnv.m {p0 p : Nat} {x : Int32} (h : lnv J p x K) (hm : mst z E p0 J) : mst z E p K := ⟨(h.2.1 28 (by decide) (by decide)).trans hm.1, h.2.2.1, (h.2.1 30 (by decide) (by decide)).trans hm.2.2⟩
theorem lnv.s {p : Nat} {x y : Int32} (h : lnv J p x K) : lnv J (p + 1) y (mm_u (mm_u K 108 31 y) 108 29 (nI p + 1)) := by
  refine ⟨fun k hk => by rw [mm_u_k _ _ _ hk, mm_u_k _ _ _ hk]; exact h.1 k hk, fun j h1 h2 => by rw [mm_u_j _ _ h1, mm_u_j _ _ h2]; exact h.2.1 j h1 h2, by rw [mm_u_s, nI_1], by rw [mm_u_j _ _ (by decide), mm_u_s]⟩

set_option maxHeartbeats 400000 in
theorem lp_md (d : Nat) (htx : txM z t E L) {p0 : Nat} (hm : mst z E p0 J) {R : Int32 × Nat} : ∀ (n i : Nat) (p : Nat) (x : Int32) (K : pI), i + n = 3 → p ≤ E → lnv J p x K → y_nv t n p x = R → gP mm_cs0 (d + 1) 9 false (some .boolean) cX9_reads 23 [some (.ref 108), some (.int (nI i))] [] (mm_sh, mm_R, K, L) (pX (some (.int 1)) L (lnv J R.2 R.1)) := by
  intro n
  induction n with
  | zero =>
    intro i p x K hi hpE hl hR
    obtain rfl : i = 3 := by omega
    have hc1 : (3 : Int32) ≤ nI 3 := by decide
    refine gp_iload_n dX9_reads_23 rfl ?_
    refine gp_pu (st' := .int (3) :: _) dX9_reads_24 rfl ?_
    refine gp_icc (t := 81) dX9_reads_25 (by decide) c2_ge (fun h1 => ?_) (fun h1 => ?_)
    · have h1' := Int32.not_lt.mpr h1
      refine gp_pu (st' := .int (1) :: _) dX9_reads_81 rfl ?_
      refine gp_zret dX9_reads_82 rfl (by first | exact Or.inl rfl | exact Or.inr rfl | assumption) ?_
      (subst hR; exact pX.mk rfl hl)
    · exact absurd hc1 h1
  | succ n ih =>
    intro i p x K hi hpE hl hR
    have hc1 : ¬ (3 : Int32) ≤ nI i := nI_ge (b := 3) (by omega) (by omega)
    have zqm := hl.m hm
    have hE := htx.2.1
    refine gp_iload_n dX9_reads_23 rfl ?_
    refine gp_pu (st' := .int (3) :: _) dX9_reads_24 rfl ?_
    refine gp_icc (t := 81) dX9_reads_25 (by decide) c2_ge (fun h1 => ?_) (fun h1 => ?_)
    · exact absurd h1 hc1
    · have h1' := Int32.not_le.mp h1
      refine gp_aload_n dX9_reads_28 rfl ?_
      refine gp_call (kind := 1) (args := [.ref _]) (rest := _) dX9_reads_29 (Or.inr (Or.inl ⟨rfl, rfl⟩)) mk_9_188 (by decide) me_158 rfl rfl rfl rfl rfl (mm_rc_of (by first | rfl | assumption | (simp only [*]; done))) (ok_isDigM _ htx zqm (by omega)) rfl ?_
      refine gp_ifc (t := 81) dX9_reads_32 (by decide) c1_eq (fun h2 => ?_) (fun h2 => ?_)
      · refine gp_pu (st' := .int (1) :: _) dX9_reads_81 rfl ?_
        refine gp_zret dX9_reads_82 rfl (by first | exact Or.inl rfl | exact Or.inr rfl | assumption) ?_
        (have hd := bi_0.mp h2; rw [y_nv_f hd] at hR; subst hR; exact pX.mk rfl hl)
      · have hd : 48 ≤ t p ∧ t p ≤ 57 := Classical.not_not.mp (fun y => h2 (bi_0.mpr y))
        have zqE : p < E := by
          by_cases y : p < E
          · exact y
          · rw [htx.2.2.2 p (by omega)] at hd; exact absurd hd.1 (by decide)
        refine gp_aload_n dX9_reads_35 rfl ?_
        refine gp_pu (st' := .int (10) :: _) dX9_reads_36 rfl ?_
        refine gp_aload_n dX9_reads_38 rfl ?_
        refine gp_giv dX9_reads_39 mf_9_185 (by decide) (by first | rfl | assumption | (simp only [*]; done)) (by first | exact zqm.2.1 | exact hl.2.2.2 | exact zqm.1 | exact mm_u_s _ _ _ _ | exact (mm_u_j _ _ (by decide)).trans zqm.2.1 | exact rfl) ?_
        refine gp_pu (st' := .int _ :: _) dX9_reads_42 rfl ?_
        refine gp_aload_n dX9_reads_43 rfl ?_
        refine gp_gr dX9_reads_44 mf_9_68 rfl (by first | rfl | assumption | (simp only [*]; done)) (by first | rfl | assumption | (simp only [*]; done)) ?_
        refine gp_aload_n dX9_reads_47 rfl ?_
        refine gp_giv dX9_reads_48 mf_9_182 (by decide) (by first | rfl | assumption | (simp only [*]; done)) (by first | exact zqm.2.1 | exact hl.2.2.2 | exact zqm.1 | exact mm_u_s _ _ _ _ | exact (mm_u_j _ _ (by decide)).trans zqm.2.1 | exact rfl) ?_
        refine gp_aload_n dX9_reads_51 rfl ?_
        refine gp_giv dX9_reads_52 mf_9_176 (by decide) (by first | rfl | assumption | (simp only [*]; done)) (by first | exact zqm.2.1 | exact hl.2.2.2 | exact zqm.1 | exact mm_u_s _ _ _ _ | exact (mm_u_j _ _ (by decide)).trans zqm.2.1 | exact rfl) ?_
        refine gp_pu (st' := .int _ :: _) dX9_reads_55 rfl ?_
        refine gp_lal dX9_reads_56 (by first | rfl | assumption | (simp only [*]; done)) (tx_i htx zqE rfl rfl).1 ?_
        refine gp_pu (st' := .int _ :: _) dX9_reads_57 rfl ?_
        rw [(tx_i htx zqE rfl rfl).2]
        refine gp_pu (st' := .int _ :: _) dX9_reads_58 rfl ?_
        refine gp_pu (st' := .int (48) :: _) dX9_reads_59 rfl ?_
        refine gp_pu (st' := .int _ :: _) dX9_reads_61 rfl ?_
        refine gp_pi dX9_reads_62 mf_9_185 rfl rfl (by first | rfl | assumption | (simp only [*]; done)) ?_
        refine gp_aload_n dX9_reads_65 rfl ?_
        refine gp_pu dX9_reads_66 rfl ?_
        refine gp_giv dX9_reads_67 mf_9_176 (by decide) (by first | rfl | assumption | (simp only [*]; done)) (by first | exact zqm.2.1 | exact hl.2.2.2 | exact zqm.1 | exact mm_u_s _ _ _ _ | exact (mm_u_j _ _ (by decide)).trans zqm.2.1 | exact rfl) ?_
        refine gp_pu (st' := .int (1) :: _) dX9_reads_70 rfl ?_
        refine gp_pu (st' := .int _ :: _) dX9_reads_71 rfl ?_
        refine gp_pi dX9_reads_72 mf_9_176 rfl rfl (by first | rfl | assumption | (simp only [*]; done)) ?_
        refine gp_iinc (v := (1)) (ls' := [some (.ref _), some (.int _)]) dX9_reads_75 rfl (by decide) rfl ?_
        refine gp_goto (t := 23) dX9_reads_78 (by decide) ?_
        (rw [nI_1]
         rw [y_nv_t hd] at hR
         exact ih (i + 1) (p + 1) _ _ (by omega) (by omega) hl.s hR)

theorem bi_n0 {p : Prop} [Decidable p] (h : ¬ bi p = 0) : p := Classical.not_not.mp fun y => h (bi_0.mpr y)
theorem y_nv_le (t : Nat → Int32) (n : Nat) : ∀ (p : Nat) (x : Int32), p ≤ (y_nv t n p x).2 := by
  induction n with
  | zero => intro p x; exact Nat.le_refl p
  | succ n ih =>
    intro p x
    by_cases h : 48 ≤ t p ∧ t p ≤ 57
    · rw [y_nv_t h]; have := ih (p + 1) (10 * x + t p - 48); omega
    · rw [y_nv_f h]; exact Nat.le_refl p

set_option maxHeartbeats 400000 in
theorem ok_wrong (d : Nat) (J : pI) (L : pL) (x : Int32) : mm_Call (d + 1) 155 [.ref 108, .int x] (mm_sh, mm_R, J, L) (some (.int 0)) (mm_sh, mm_R, mm_u J 108 32 x, L) := by
  refine cP.call ?_
  refine cP.of_gP (d := d + 0) me_155 ⟨Nat.le_of_ble_eq_true rfl, rfl⟩ ?_
  show gP mm_cs0 _ _ _ _ _ _ [some (.ref _), some (.int _)] [] _ _
  refine gp_aload_n dX9_wrong_0 rfl ?_
  refine gp_iload_n dX9_wrong_1 rfl ?_
  refine gp_pi dX9_wrong_2 mf_9_173 rfl rfl (by first | rfl | assumption | (simp only [*]; done)) ?_
  refine gp_pu (st' := .int (0) :: _) dX9_wrong_5 rfl ?_
  refine gp_zret dX9_wrong_6 rfl (by first | exact Or.inl rfl | exact Or.inr rfl | assumption) ?_
  exact ⟨rfl, rfl⟩

set_option maxHeartbeats 400000 in
theorem mt_reads (d : Nat) (htx : txM z t E L) {p : Nat} (hm : mst z E p J) (hpE : p ≤ E) : cP (d + 2) 159 [.ref 108] (mm_sh, mm_R, J, L) (pX (some (.int (bi (¬ (y_nv t 3 p 0).2 = p)))) L (fun K => ((y_nv t 3 p 0).2 = p ∧ (∀ k, k ≠ 108 → K k = J k) ∧ (∀ j, j ≠ 31 → j ≠ 32 → K 108 j = J 108 j) ∧ K 108 32 = nI p) ∨ (¬ (y_nv t 3 p 0).2 = p ∧ (∀ k, k ≠ 108 → K k = J k) ∧ (∀ j, j ≠ 29 → j ≠ 31 → K 108 j = J 108 j) ∧ K 108 29 = nI (y_nv t 3 p 0).2 ∧ K 108 31 = (y_nv t 3 p 0).1))) := by
  have hE := htx.2.1
  have zqm0 : mst z E p (mm_u J 108 31 0) := ⟨(mm_u_j _ _ (by decide)).trans hm.1, (mm_u_j _ _ (by decide)).trans hm.2.1, (mm_u_j _ _ (by decide)).trans hm.2.2⟩
  refine cP.of_gP (d := d + 1) me_159 ⟨Nat.le_of_ble_eq_true rfl, rfl⟩ ?_
  show gP mm_cs0 _ _ _ _ _ _ [some (.ref _), none] [] _ _
  refine gp_aload_n dX9_reads_0 rfl ?_
  refine gp_pu (st' := .int (0) :: _) dX9_reads_1 rfl ?_
  refine gp_pi dX9_reads_2 mf_9_185 rfl rfl (by first | rfl | assumption | (simp only [*]; done)) ?_
  refine gp_aload_n dX9_reads_5 rfl ?_
  refine gp_call (kind := 1) (args := [.ref _]) (rest := _) dX9_reads_6 (Or.inr (Or.inl ⟨rfl, rfl⟩)) mk_9_188 (by decide) me_158 rfl rfl rfl rfl rfl (mm_rc_of (by first | rfl | assumption | (simp only [*]; done))) (ok_isDigM _ htx zqm0 (by omega)) rfl ?_
  refine gp_ifc (t := 21) dX9_reads_9 (by decide) c1_ne (fun h1 => ?_) (fun h1 => ?_)
  · refine gp_pu (st' := .int (0) :: _) dX9_reads_21 rfl ?_
    refine gp_istore_n (ls' := [some (.ref _), some (.int _)]) dX9_reads_22 rfl (Nat.le_of_ble_eq_true rfl) ?_
    (have hd : 48 ≤ t p ∧ t p ≤ 57 := bi_n0 h1
     have hne : ¬ (y_nv t 3 p 0).2 = p := by
      rw [y_nv_t hd]
      have := y_nv_le t 2 (p + 1) (10 * 0 + t p - 48)
      omega
     refine (lp_md d htx zqm0 3 0 p 0 _ (by omega) hpE ⟨fun _ _ => rfl, fun _ _ _ => rfl, zqm0.2.1, mm_u_s _ _ _ _⟩ rfl).mono (fun r M q => ?_)
     obtain ⟨q1, J', q2, q3⟩ := q
     refine ⟨by rw [q1, bi_t hne], J', q2, Or.inr ⟨hne, ?_, fun j b1 b2 => ?_, q3.2.2⟩⟩
     · exact fun k hk => by rw [q3.1 k hk, mm_u_k _ _ _ hk]
     · rw [q3.2.1 j b1 b2, mm_u_j _ _ b2])
  · have zqe : (y_nv t 3 p 0).2 = p := by rw [y_nv_f (bi_0.mp (Classical.not_not.mp h1))]
    refine gp_aload_n dX9_reads_12 rfl ?_
    refine gp_aload_n dX9_reads_13 rfl ?_
    refine gp_giv dX9_reads_14 mf_9_176 (by decide) (by first | rfl | assumption | (simp only [*]; done)) (by first | exact (mm_u_j _ _ (by decide)).trans hm.2.1 | exact rfl) ?_
    refine gp_call (kind := 1) (args := [.ref _, .int _]) (rest := _) dX9_reads_17 (Or.inr (Or.inl ⟨rfl, rfl⟩)) mk_9_192 (by decide) me_155 rfl rfl rfl rfl rfl (mm_rc_of (by first | rfl | assumption | (simp only [*]; done))) (ok_wrong _ _ _ _) rfl ?_
    refine gp_zret dX9_reads_20 rfl (by first | exact Or.inl rfl | exact Or.inr rfl | assumption) ?_
    exact pX.mk (by rw [bi_f (fun y => y zqe)]) (Or.inl ⟨zqe, fun k hk => by rw [mm_u_k _ _ _ hk, mm_u_k _ _ _ hk], fun j b1 b2 => by rw [mm_u_j _ _ b2, mm_u_j _ _ b1], mm_u_s _ _ _ _⟩)
end P98w
