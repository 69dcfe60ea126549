/-! PUBLIC METHODS: field: the reference reads words -/
section P98wa
variable {I C J K V : pI} {L : pL} {N S : Nat} {t : Nat → Int32} {z E w : Nat} {f : Nat → Int32}

/-- where a word begins in the reference's row of words -/
def y_of (w : Nat) : Nat := ([0, 7, 13, 20, 27, 32, 36, 42, 48] : List Nat).getD w 0
theorem of_s : ∀ w, w < 8 → y_of (w + 1) = y_of w + (mm_sy w).length + 2 ∧ y_of w + (mm_sy w).length + 2 ≤ 48 := by decide
set_option maxRecDepth 10000 in
theorem of_l : ∀ w, w < 8 → (∀ j, j < (mm_sy w).length → wordsL.getD (y_of w + j) 0 = (mm_sy w).getD j 0 ∧ 32 < (mm_sy w).getD j 0) ∧ wordsL.getD (y_of w + (mm_sy w).length) 0 = 32 ∧ wordsL.getD (y_of w + (mm_sy w).length + 1) 0 = 0 := by decide +kernel
def wOf (J : pI) : Prop := ∀ j, j < 48 → J 124 j = wordsL.getD j 0
theorem wOf_l (h : wOf J) {w j : Nat} (hw : w < 8) (hj : j < (mm_sy w).length) : mm_in (nI (y_of w + j)) 48 = true ∧ J 124 (nI (y_of w + j)).toNatClampNeg = (mm_sy w).getD j 0 ∧ 32 < (mm_sy w).getD j 0 := by
  have := (of_s w hw).2
  have e := (of_l w hw).1 j hj
  refine ⟨(mm_in_i (n := 48) (by omega)).mpr ⟨nI_pos' (by omega), nI_lt (b := 48) (by omega) (by omega)⟩, ?_, e.2⟩
  rw [nI_clamp (by omega), h _ (by omega)]
  exact e.1
theorem wOf_b (h : wOf J) {w j : Nat} (hw : w < 8) (hj : j = (mm_sy w).length) : mm_in (nI (y_of w + j)) 48 = true ∧ J 124 (nI (y_of w + j)).toNatClampNeg = 32 := by
  have := (of_s w hw).2
  have e := (of_l w hw).2.1
  refine ⟨(mm_in_i (n := 48) (by omega)).mpr ⟨nI_pos' (by omega), nI_lt (b := 48) (by omega) (by omega)⟩, ?_⟩
  rw [nI_clamp (by omega), h _ (by omega), hj]
  exact e
theorem wOf_0 (h : wOf J) {w j : Nat} (hw : w < 8) (hj : j = (mm_sy w).length + 1) : mm_in (nI (y_of w + j)) 48 = true ∧ J 124 (nI (y_of w + j)).toNatClampNeg = 0 := by
  have := (of_s w hw).2
  have e := (of_l w hw).2.2
  refine ⟨(mm_in_i (n := 48) (by omega)).mpr ⟨nI_pos' (by omega), nI_lt (b := 48) (by omega) (by omega)⟩, ?_⟩
  rw [nI_clamp (by omega), h _ (by omega), hj]
  exact e

set_option maxHeartbeats 400000 in
theorem lp_st (d : Nat) (htx : txM z t E L) {p : Nat} (hm : mst z E p J) (hpE : p ≤ E) (hW : wOf J) (hw : w < 8) {x : Int32} : ∀ (n j : Nat), j + n = (mm_sy w).length → j ≤ y_lk t (mm_sy w) p → gP mm_cs0 (d) 9 false (some .boolean) cX9_stands 37 [some (.ref 108), some (.int x), some (.int (nI (y_of w + j))), some (.int (nI (p + j)))] [] (mm_sh, mm_R, J, L) (pX (some (.int (bi (y_lk t (mm_sy w) p = (mm_sy w).length)))) L (fun K => K = J)) := by
  intro n
  induction n with
  | zero =>
    intro j hj hl
    obtain rfl : j = (mm_sy w).length := by omega
    have hE := htx.2.1
    have hl5 := (sy_len w hw).2
    obtain ⟨zqi, zqw⟩ := wOf_b hW hw rfl
    refine gp_aload_n dX9_stands_37 rfl ?_
    refine gp_gr dX9_stands_38 mf_9_75 rfl (by first | rfl | assumption | (simp only [*]; done)) (by first | rfl | assumption | (simp only [*]; done)) ?_
    refine gp_iload_n dX9_stands_41 rfl ?_
    refine gp_ialv dX9_stands_42 rfl (by first | rfl | assumption | (simp only [*]; done)) (by first | rfl | assumption | (simp only [*]; done)) (by first | exact hm.1 | exact hm.2.2 | exact zqw | exact rfl) ?_
    refine gp_pu (st' := .int (32) :: _) dX9_stands_43 rfl ?_
    refine gp_icc (t := 86) dX9_stands_45 (by decide) c2_le (fun h1 => ?_) (fun h1 => ?_)
    · have h1' := Int32.not_lt.mpr h1
      refine gp_aload_n dX9_stands_86 rfl ?_
      refine gp_gr dX9_stands_87 mf_9_75 rfl (by first | rfl | assumption | (simp only [*]; done)) (by first | rfl | assumption | (simp only [*]; done)) ?_
      refine gp_iload_n dX9_stands_90 rfl ?_
      refine gp_ialv dX9_stands_91 rfl (by first | rfl | assumption | (simp only [*]; done)) (by first | rfl | assumption | (simp only [*]; done)) (by first | exact hm.1 | exact hm.2.2 | exact zqw | exact rfl) ?_
      refine gp_pu (st' := .int (32) :: _) dX9_stands_92 rfl ?_
      refine gp_icc (t := 101) dX9_stands_94 (by decide) c2_gt (fun h2 => ?_) (fun h2 => ?_)
      · exact absurd h2 (by decide)
      · have h2' := Int32.not_lt.mp h2
        refine gp_pu (st' := .int (1) :: _) dX9_stands_97 rfl ?_
        refine gp_goto (t := 102) dX9_stands_98 (by decide) ?_
        refine gp_zret dX9_stands_102 rfl (by first | exact Or.inl rfl | exact Or.inr rfl | assumption) ?_
        exact pX.mk (by rw [bi_t (y_lk_f hl (Nat.lt_irrefl _))]) rfl
    · exact absurd (by decide) h1
  | succ n ih =>
    intro j hj hl
    have hE := htx.2.1
    have hl5 := (sy_len w hw).2
    obtain ⟨zqi, zqw, zql⟩ := wOf_l hW hw (j := j) (by omega)
    have zqz : ¬ (0 : Int32) = (mm_sy w).getD j 0 := fun y => sy_n0 w hw j (by omega) y.symm
    have zqo : nI E ≤ nI (p + j) → t (p + j) = 0 := fun y => htx.2.2.2 _ (by
      by_cases x : E ≤ p + j
      · exact x
      · exact absurd y (nI_ge (by omega) (by omega)))
    have zqp : ¬ nI E ≤ nI (p + j) → p + j < E := fun y => by
      by_cases x : p + j < E
      · exact x
      · exact absurd (nI_le (by omega) (by omega)) y
    refine gp_aload_n dX9_stands_37 rfl ?_
    refine gp_gr dX9_stands_38 mf_9_75 rfl (by first | rfl | assumption | (simp only [*]; done)) (by first | rfl | assumption | (simp only [*]; done)) ?_
    refine gp_iload_n dX9_stands_41 rfl ?_
    refine gp_ialv dX9_stands_42 rfl (by first | rfl | assumption | (simp only [*]; done)) (by first | rfl | assumption | (simp only [*]; done)) (by first | exact hm.1 | exact hm.2.2 | exact zqw | exact rfl) ?_
    refine gp_pu (st' := .int (32) :: _) dX9_stands_43 rfl ?_
    refine gp_icc (t := 86) dX9_stands_45 (by decide) c2_le (fun h1 => ?_) (fun h1 => ?_)
    · exact absurd zql (Int32.not_lt.mpr h1)
    · have h1' := Int32.not_le.mp h1
      (try simp only [Classical.not_not] at h1)
      refine gp_iload_n dX9_stands_48 rfl ?_
      refine gp_aload_n dX9_stands_49 rfl ?_
      refine gp_giv dX9_stands_50 mf_9_179 (by decide) (by first | rfl | assumption | (simp only [*]; done)) (by first | exact hm.1 | exact hm.2.2 | exact zqw | exact rfl) ?_
      refine gp_icc (t := 86) dX9_stands_53 (by decide) c2_ge (fun h2 => ?_) (fun h2 => ?_)
      · have h2' := Int32.not_lt.mpr h2
        (try simp only [Classical.not_not] at h2)
        refine gp_aload_n dX9_stands_86 rfl ?_
        refine gp_gr dX9_stands_87 mf_9_75 rfl (by first | rfl | assumption | (simp only [*]; done)) (by first | rfl | assumption | (simp only [*]; done)) ?_
        refine gp_iload_n dX9_stands_90 rfl ?_
        refine gp_ialv dX9_stands_91 rfl (by first | rfl | assumption | (simp only [*]; done)) (by first | rfl | assumption | (simp only [*]; done)) (by first | exact hm.1 | exact hm.2.2 | exact zqw | exact rfl) ?_
        refine gp_pu (st' := .int (32) :: _) dX9_stands_92 rfl ?_
        refine gp_icc (t := 101) dX9_stands_94 (by decide) c2_gt (fun h3 => ?_) (fun h3 => ?_)
        · have h3' := Int32.not_le.mpr h3
          (try simp only [Classical.not_not] at h3)
          refine gp_pu (st' := .int (0) :: _) dX9_stands_101 rfl ?_
          refine gp_zret dX9_stands_102 rfl (by first | exact Or.inl rfl | exact Or.inr rfl | assumption) ?_
          (have hne : ¬ y_lk t (mm_sy w) p = (mm_sy w).length := by
            intro y
            rw [y_lk_e hl (by first | assumption | (rw [zqo (by assumption)]; exact zqz))] at y
            omega
           exact pX.mk (by rw [bi_f hne]) rfl)
        · exact absurd zql h3
      · have h2' := Int32.not_le.mp h2
        (try simp only [Classical.not_not] at h2)
        refine gp_aload_n dX9_stands_56 rfl ?_
        refine gp_gr dX9_stands_57 mf_9_68 rfl (by first | rfl | assumption | (simp only [*]; done)) (by first | rfl | assumption | (simp only [*]; done)) ?_
        refine gp_aload_n dX9_stands_60 rfl ?_
        refine gp_giv dX9_stands_61 mf_9_182 (by decide) (by first | rfl | assumption | (simp only [*]; done)) (by first | exact hm.1 | exact hm.2.2 | exact zqw | exact rfl) ?_
        refine gp_iload_n dX9_stands_64 rfl ?_
        refine gp_pu (st' := .int _ :: _) dX9_stands_65 rfl ?_
        refine gp_lal dX9_stands_66 (by first | rfl | assumption | (simp only [*]; done)) (tx_i htx (zqp h2) rfl rfl).1 ?_
        refine gp_pu (st' := .int _ :: _) dX9_stands_67 rfl ?_
        rw [(tx_i htx (zqp h2) rfl rfl).2]
        refine gp_aload_n dX9_stands_68 rfl ?_
        refine gp_gr dX9_stands_69 mf_9_75 rfl (by first | rfl | assumption | (simp only [*]; done)) (by first | rfl | assumption | (simp only [*]; done)) ?_
        refine gp_iload_n dX9_stands_72 rfl ?_
        refine gp_ialv dX9_stands_73 rfl (by first | rfl | assumption | (simp only [*]; done)) zqi (by first | exact hm.1 | exact hm.2.2 | exact zqw | exact rfl) ?_
        refine gp_icc (t := 86) dX9_stands_74 (by decide) c2_ne (fun h4 => ?_) (fun h4 => ?_)
        · (try simp only [Classical.not_not] at h4)
          refine gp_aload_n dX9_stands_86 rfl ?_
          refine gp_gr dX9_stands_87 mf_9_75 rfl (by first | rfl | assumption | (simp only [*]; done)) (by first | rfl | assumption | (simp only [*]; done)) ?_
          refine gp_iload_n dX9_stands_90 rfl ?_
          refine gp_ialv dX9_stands_91 rfl (by first | rfl | assumption | (simp only [*]; done)) (by first | rfl | assumption | (simp only [*]; done)) (by first | exact hm.1 | exact hm.2.2 | exact zqw | exact rfl) ?_
          refine gp_pu (st' := .int (32) :: _) dX9_stands_92 rfl ?_
          refine gp_icc (t := 101) dX9_stands_94 (by decide) c2_gt (fun h5 => ?_) (fun h5 => ?_)
          · have h5' := Int32.not_le.mpr h5
            (try simp only [Classical.not_not] at h5)
            refine gp_pu (st' := .int (0) :: _) dX9_stands_101 rfl ?_
            refine gp_zret dX9_stands_102 rfl (by first | exact Or.inl rfl | exact Or.inr rfl | assumption) ?_
            (have hne : ¬ y_lk t (mm_sy w) p = (mm_sy w).length := by
              intro y
              rw [y_lk_e hl (by first | assumption | (rw [zqo (by assumption)]; exact zqz))] at y
              omega
             exact pX.mk (by rw [bi_f hne]) rfl)
          · exact absurd zql h5
        · (try simp only [Classical.not_not] at h4)
          refine gp_iinc (v := (1)) (ls' := [some (.ref _), some (.int _), some (.int _), some (.int _)]) dX9_stands_77 rfl (by decide) rfl ?_
          refine gp_iinc (v := (1)) (ls' := [some (.ref _), some (.int _), some (.int _), some (.int _)]) dX9_stands_80 rfl (by decide) rfl ?_
          refine gp_goto (t := 37) dX9_stands_83 (by decide) ?_
          (rw [nI_1, nI_1]
           exact ih (j + 1) (by omega) (y_lk_s _ _ _ hl (by omega) h4))

set_option maxHeartbeats 400000 in
theorem lp_st4 (d : Nat) (hW : wOf J) {Q : Option Value → mm_M → Prop} : ∀ (n c : Nat), c + n = 6 → gP mm_cs0 d 9 false (some .boolean) cX9_stands 32 [some (.ref 108), some (.int 1), some (.int (nI 7)), some (.int 1)] [] (mm_sh, mm_R, J, L) Q → gP mm_cs0 d 9 false (some .boolean) cX9_stands 4 [some (.ref 108), some (.int 1), some (.int (nI c)), some (.int 0)] [] (mm_sh, mm_R, J, L) Q := by
  intro n
  induction n with
  | zero =>
    intro c hc hk
    obtain rfl : c = 6 := by omega
    have zqi : mm_in (nI 6) 48 = true := by decide
    have zqw : J 124 (nI 6).toNatClampNeg = 0 := hW 6 (by decide)
    refine gp_iload_n dX9_stands_4 rfl ?_
    refine gp_iload_n dX9_stands_5 rfl ?_
    refine gp_icc (t := 32) dX9_stands_6 (by decide) c2_ge (fun h1 => ?_) (fun h1 => ?_)
    · exact absurd h1 (by decide)
    · have h1' := Int32.not_le.mp h1
      refine gp_iload_n dX9_stands_9 rfl ?_
      refine gp_aload_n dX9_stands_10 rfl ?_
      refine gp_gr dX9_stands_11 mf_9_75 rfl (by first | rfl | assumption | (simp only [*]; done)) (by first | rfl | assumption | (simp only [*]; done)) ?_
      refine gp_iload_n dX9_stands_14 rfl ?_
      refine gp_ialv dX9_stands_15 rfl (by first | rfl | assumption | (simp only [*]; done)) zqi (by first | exact zqw | exact rfl) ?_
      refine gp_ifc (t := 23) dX9_stands_16 (by decide) c1_ne (fun h2 => ?_) (fun h2 => ?_)
      · exact absurd rfl h2
      · refine gp_pu (st' := .int (1) :: _) dX9_stands_19 rfl ?_
        refine gp_goto (t := 24) dX9_stands_20 (by decide) ?_
        refine gp_pu (st' := .int _ :: _) dX9_stands_24 rfl ?_
        refine gp_istore_n (ls' := [some (.ref _), some (.int _), some (.int _), some (.int _)]) dX9_stands_25 rfl (Nat.le_of_ble_eq_true rfl) ?_
        refine gp_iinc (v := (1)) (ls' := [some (.ref _), some (.int _), some (.int _), some (.int _)]) dX9_stands_26 rfl (by decide) rfl ?_
        refine gp_goto (t := 4) dX9_stands_29 (by decide) ?_
        (refine gp_iload_n dX9_stands_4 rfl ?_
         refine gp_iload_n dX9_stands_5 rfl ?_
         refine gp_icc (t := 32) dX9_stands_6 (by decide) c2_ge (fun h2 => ?_) (fun h2 => ?_)
         · exact hk
         · exact absurd (by decide) h2)
  | succ n ih =>
    intro c hc hk
    have zqi : mm_in (nI c) 48 = true := (mm_in_i (n := 48) (by omega)).mpr ⟨nI_pos' (by omega), nI_lt (b := 48) (by omega) (by omega)⟩
    have zqw : J 124 (nI c).toNatClampNeg = wordsL.getD c 0 := by rw [nI_clamp (by omega)]; exact hW c (by omega)
    have zqn : ¬ wordsL.getD c 0 = 0 := by
      have : c = 0 ∨ c = 1 ∨ c = 2 ∨ c = 3 ∨ c = 4 ∨ c = 5 := by omega
      rcases this with rfl | rfl | rfl | rfl | rfl | rfl <;> decide
    refine gp_iload_n dX9_stands_4 rfl ?_
    refine gp_iload_n dX9_stands_5 rfl ?_
    refine gp_icc (t := 32) dX9_stands_6 (by decide) c2_ge (fun h1 => ?_) (fun h1 => ?_)
    · exact absurd h1 (by decide)
    · have h1' := Int32.not_le.mp h1
      refine gp_iload_n dX9_stands_9 rfl ?_
      refine gp_aload_n dX9_stands_10 rfl ?_
      refine gp_gr dX9_stands_11 mf_9_75 rfl (by first | rfl | assumption | (simp only [*]; done)) (by first | rfl | assumption | (simp only [*]; done)) ?_
      refine gp_iload_n dX9_stands_14 rfl ?_
      refine gp_ialv dX9_stands_15 rfl (by first | rfl | assumption | (simp only [*]; done)) zqi (by first | exact zqw | exact rfl) ?_
      refine gp_ifc (t := 23) dX9_stands_16 (by decide) c1_ne (fun h2 => ?_) (fun h2 => ?_)
      · refine gp_pu (st' := .int (0) :: _) dX9_stands_23 rfl ?_
        refine gp_pu (st' := .int _ :: _) dX9_stands_24 rfl ?_
        refine gp_istore_n (ls' := [some (.ref _), some (.int _), some (.int _), some (.int _)]) dX9_stands_25 rfl (Nat.le_of_ble_eq_true rfl) ?_
        refine gp_iinc (v := (1)) (ls' := [some (.ref _), some (.int _), some (.int _), some (.int _)]) dX9_stands_26 rfl (by decide) rfl ?_
        refine gp_goto (t := 4) dX9_stands_29 (by decide) ?_
        (rw [nI_1, Int32.add_zero]; exact ih (c + 1) (by omega) hk)
      · exact absurd (Classical.not_not.mp h2) zqn

set_option maxHeartbeats 400000 in
theorem mt_stands0 (d : Nat) (htx : txM z t E L) {p : Nat} (hm : mst z E p J) (hpE : p ≤ E) (hW : wOf J) : cP (d + 1) 156 [.ref 108, .int 0] (mm_sh, mm_R, J, L) (pX (some (.int (bi (y_lk t (mm_sy 0) p = (mm_sy 0).length)))) L (fun K => K = J)) := by
  refine cP.of_gP (d := d + 0) me_156 ⟨Nat.le_of_ble_eq_true rfl, rfl⟩ ?_
  show gP mm_cs0 _ _ _ _ _ _ [some (.ref _), some (.int _), none, none] [] _ _
  refine gp_pu (st' := .int (0) :: _) dX9_stands_0 rfl ?_
  refine gp_istore_n (ls' := [some (.ref _), some (.int _), some (.int _), none]) dX9_stands_1 rfl (Nat.le_of_ble_eq_true rfl) ?_
  refine gp_pu (st' := .int (0) :: _) dX9_stands_2 rfl ?_
  refine gp_istore_n (ls' := [some (.ref _), some (.int _), some (.int _), some (.int _)]) dX9_stands_3 rfl (Nat.le_of_ble_eq_true rfl) ?_
  refine gp_iload_n dX9_stands_4 rfl ?_
  refine gp_iload_n dX9_stands_5 rfl ?_
  refine gp_icc (t := 32) dX9_stands_6 (by decide) c2_ge (fun h1 => ?_) (fun h1 => ?_)
  · have h1' := Int32.not_lt.mpr h1
    refine gp_aload_n dX9_stands_32 rfl ?_
    refine gp_giv dX9_stands_33 mf_9_176 (by decide) (by first | rfl | assumption | (simp only [*]; done)) (by first | exact hm.2.1 | exact rfl) ?_
    refine gp_istore_n (ls' := [some (.ref _), some (.int _), some (.int _), some (.int _)]) dX9_stands_36 rfl (Nat.le_of_ble_eq_true rfl) ?_
    exact lp_st d htx (w := 0) hm hpE hW (by decide) _ 0 (Nat.zero_add _) (Nat.zero_le _)
  · exact absurd (by decide) h1

set_option maxHeartbeats 400000 in
theorem mt_stands1 (d : Nat) (htx : txM z t E L) {p : Nat} (hm : mst z E p J) (hpE : p ≤ E) (hW : wOf J) : cP (d + 1) 156 [.ref 108, .int 1] (mm_sh, mm_R, J, L) (pX (some (.int (bi (y_lk t (mm_sy 1) p = (mm_sy 1).length)))) L (fun K => K = J)) := by
  refine cP.of_gP (d := d + 0) me_156 ⟨Nat.le_of_ble_eq_true rfl, rfl⟩ ?_
  show gP mm_cs0 _ _ _ _ _ _ [some (.ref _), some (.int _), none, none] [] _ _
  refine gp_pu (st' := .int (0) :: _) dX9_stands_0 rfl ?_
  refine gp_istore_n (ls' := [some (.ref _), some (.int _), some (.int _), none]) dX9_stands_1 rfl (Nat.le_of_ble_eq_true rfl) ?_
  refine gp_pu (st' := .int (0) :: _) dX9_stands_2 rfl ?_
  refine gp_istore_n (ls' := [some (.ref _), some (.int _), some (.int _), some (.int _)]) dX9_stands_3 rfl (Nat.le_of_ble_eq_true rfl) ?_
  (refine lp_st4 d hW 6 0 (by omega) ?_
   refine gp_aload_n dX9_stands_32 rfl ?_
   refine gp_giv dX9_stands_33 mf_9_176 (by decide) (by first | rfl | assumption | (simp only [*]; done)) (by first | exact hm.2.1 | exact rfl) ?_
   refine gp_istore_n (ls' := [some (.ref _), some (.int _), some (.int _), some (.int _)]) dX9_stands_36 rfl (Nat.le_of_ble_eq_true rfl) ?_
   exact lp_st d htx (w := 1) hm hpE hW (by decide) _ 0 (Nat.zero_add _) (Nat.zero_le _))

theorem lb_len (w : Nat) : (mm_sy w ++ [32]).length = (mm_sy w).length + 1 := by rw [List.length_append]; rfl
/-- letters and the blank, in the row of words -/
theorem wOf_s (h : wOf J) {w j : Nat} (hw : w < 8) (hj : j < (mm_sy w).length + 1) : mm_in (nI (y_of w + j)) 48 = true ∧ J 124 (nI (y_of w + j)).toNatClampNeg = (mm_sy w ++ [32]).getD j 0 ∧ ¬ (mm_sy w ++ [32]).getD j 0 = 0 := by
  by_cases q : j < (mm_sy w).length
  · obtain ⟨a, b, c⟩ := wOf_l h hw q
    have e : (mm_sy w ++ [32]).getD j 0 = (mm_sy w).getD j 0 := by
      rw [List.getD_eq_getElem?_getD, List.getD_eq_getElem?_getD, List.getElem?_append_left q]
    rw [e]
    exact ⟨a, b, fun y => by rw [y] at c; exact absurd c (by decide)⟩
  · have hj : j = (mm_sy w).length := by omega
    obtain ⟨a, b⟩ := wOf_b h hw hj
    have e : (mm_sy w ++ [32]).getD j 0 = 32 := by
      rw [List.getD_eq_getElem?_getD, List.getElem?_append_right (by omega), hj, Nat.sub_self]
      rfl
    rw [e]
    exact ⟨a, b, by decide⟩

set_option maxHeartbeats 400000 in
theorem lp_w24 (d : Nat) (htx : txM z t E L) {p : Nat} (hm : mst z E p J) (hpE : p ≤ E) (hW : wOf J) (hw : w < 8) {x : Int32} {Q : Option Value → mm_M → Prop} : ∀ (n j : Nat), j + n = ((mm_sy w).length + 1) → j ≤ (y_lk t (mm_sy w ++ [32]) p) → gP mm_cs0 d 9 false (some .int) cX9_word 75 [some (.ref 108), some (.int (nI (y_of w))), some (.int x), some (.int (nI w)), some (.int (nI (p + (y_lk t (mm_sy w ++ [32]) p)))), some (.int (nI (y_of w + (y_lk t (mm_sy w ++ [32]) p))))] [] (mm_sh, mm_R, J, L) Q → gP mm_cs0 (d) 9 false (some .int) cX9_word 24 [some (.ref 108), some (.int (nI (y_of w))), some (.int x), some (.int (nI w)), some (.int (nI (p + j))), some (.int (nI (y_of w + j)))] [] (mm_sh, mm_R, J, L) Q := by
  intro n
  induction n with
  | zero =>
    intro j hj hl hcont
    obtain rfl : j = (mm_sy w).length + 1 := by omega
    have hE := htx.2.1
    have hl5 := (sy_len w hw).2
    obtain ⟨zqi, zqw⟩ := wOf_0 hW hw rfl
    refine gp_aload_n dX9_word_24 rfl ?_
    refine gp_gr dX9_word_25 mf_9_75 rfl (by first | rfl | assumption | (simp only [*]; done)) (by first | rfl | assumption | (simp only [*]; done)) ?_
    refine gp_iload dX9_word_28 rfl ?_
    refine gp_ialv dX9_word_30 rfl (by first | rfl | assumption | (simp only [*]; done)) zqi (by first | exact hm.1 | exact hm.2.2 | exact zqw | exact rfl) ?_
    refine gp_ifc (t := 75) dX9_word_31 (by decide) c1_eq (fun h1 => ?_) (fun h1 => ?_)
    · (rw [y_lk_f hl (by rw [lb_len]; exact Nat.lt_irrefl _)] at hcont; exact hcont)
    · exact absurd rfl h1
  | succ n ih =>
    intro j hj hl hcont
    have hE := htx.2.1
    have hl5 := (sy_len w hw).2
    obtain ⟨zqi, zqw, zqn⟩ := wOf_s hW hw (j := j) (by omega)
    have zqo : nI E ≤ nI (p + j) → t (p + j) = 0 := fun y => htx.2.2.2 _ (by
      by_cases x : E ≤ p + j
      · exact x
      · exact absurd y (nI_ge (by omega) (by omega)))
    have zqp : ¬ nI E ≤ nI (p + j) → p + j < E := fun y => by
      by_cases x : p + j < E
      · exact x
      · exact absurd (nI_le (by omega) (by omega)) y
    refine gp_aload_n dX9_word_24 rfl ?_
    refine gp_gr dX9_word_25 mf_9_75 rfl (by first | rfl | assumption | (simp only [*]; done)) (by first | rfl | assumption | (simp only [*]; done)) ?_
    refine gp_iload dX9_word_28 rfl ?_
    refine gp_ialv dX9_word_30 rfl (by first | rfl | assumption | (simp only [*]; done)) zqi (by first | exact hm.1 | exact hm.2.2 | exact zqw | exact rfl) ?_
    refine gp_ifc (t := 75) dX9_word_31 (by decide) c1_eq (fun h1 => ?_) (fun h1 => ?_)
    · exact absurd h1 zqn
    · (try simp only [Classical.not_not] at h1)
      refine gp_iload dX9_word_34 rfl ?_
      refine gp_aload_n dX9_word_36 rfl ?_
      refine gp_giv dX9_word_37 mf_9_179 (by decide) (by first | rfl | assumption | (simp only [*]; done)) (by first | exact hm.1 | exact hm.2.2 | exact zqw | exact rfl) ?_
      refine gp_icc (t := 75) dX9_word_40 (by decide) c2_ge (fun h2 => ?_) (fun h2 => ?_)
      · have h2' := Int32.not_lt.mpr h2
        (try simp only [Classical.not_not] at h2)
        (rw [y_lk_e hl (by first | assumption | (rw [zqo (by assumption)]; exact fun y => zqn y.symm))] at hcont; exact hcont)
      · have h2' := Int32.not_le.mp h2
        (try simp only [Classical.not_not] at h2)
        refine gp_aload_n dX9_word_43 rfl ?_
        refine gp_gr dX9_word_44 mf_9_68 rfl (by first | rfl | assumption | (simp only [*]; done)) (by first | rfl | assumption | (simp only [*]; done)) ?_
        refine gp_aload_n dX9_word_47 rfl ?_
        refine gp_giv dX9_word_48 mf_9_182 (by decide) (by first | rfl | assumption | (simp only [*]; done)) (by first | exact hm.1 | exact hm.2.2 | exact zqw | exact rfl) ?_
        refine gp_iload dX9_word_51 rfl ?_
        refine gp_pu (st' := .int _ :: _) dX9_word_53 rfl ?_
        refine gp_lal dX9_word_54 (by first | rfl | assumption | (simp only [*]; done)) (tx_i htx (zqp h2) rfl rfl).1 ?_
        refine gp_pu (st' := .int _ :: _) dX9_word_55 rfl ?_
        rw [(tx_i htx (zqp h2) rfl rfl).2]
        refine gp_aload_n dX9_word_56 rfl ?_
        refine gp_gr dX9_word_57 mf_9_75 rfl (by first | rfl | assumption | (simp only [*]; done)) (by first | rfl | assumption | (simp only [*]; done)) ?_
        refine gp_iload dX9_word_60 rfl ?_
        refine gp_ialv dX9_word_62 rfl (by first | rfl | assumption | (simp only [*]; done)) zqi (by first | exact hm.1 | exact hm.2.2 | exact zqw | exact rfl) ?_
        refine gp_icc (t := 75) dX9_word_63 (by decide) c2_ne (fun h3 => ?_) (fun h3 => ?_)
        · (try simp only [Classical.not_not] at h3)
          (rw [y_lk_e hl (by first | assumption | (rw [zqo (by assumption)]; exact fun y => zqn y.symm))] at hcont; exact hcont)
        · (try simp only [Classical.not_not] at h3)
          refine gp_iinc (v := (1)) (ls' := [some (.ref _), some (.int _), some (.int _), some (.int _), some (.int _), some (.int _)]) dX9_word_66 rfl (by decide) rfl ?_
          refine gp_iinc (v := (1)) (ls' := [some (.ref _), some (.int _), some (.int _), some (.int _), some (.int _), some (.int _)]) dX9_word_69 rfl (by decide) rfl ?_
          refine gp_goto (t := 24) dX9_word_72 (by decide) ?_
          (rw [nI_1, nI_1]
           exact ih (j + 1) (by omega) (y_lk_s _ _ _ hl (by rw [lb_len]; omega) h3) hcont)

set_option maxHeartbeats 400000 in
theorem lp_w106 (d : Nat) (hW : wOf J) (hw : w < 8) {x : Int32} {v4 v5 : Option Value} {Q : Option Value → mm_M → Prop} : ∀ (n j : Nat), j + n = ((mm_sy w).length + 1) → gP mm_cs0 d 9 false (some .int) cX9_word 9 [some (.ref 108), some (.int (nI (y_of (w + 1)))), some (.int x), some (.int (nI (w + 1))), v4, v5] [] (mm_sh, mm_R, J, L) Q → gP mm_cs0 (d) 9 false (some .int) cX9_word 106 [some (.ref 108), some (.int (nI (y_of w + j))), some (.int x), some (.int (nI w)), v4, v5] [] (mm_sh, mm_R, J, L) Q := by
  intro n
  induction n with
  | zero =>
    intro j hj hcont
    obtain rfl : j = (mm_sy w).length + 1 := by omega
    have hl5 := (sy_len w hw).2
    obtain ⟨zqi, zqw⟩ := wOf_0 hW hw rfl
    refine gp_aload_n dX9_word_106 rfl ?_
    refine gp_gr dX9_word_107 mf_9_75 rfl (by first | rfl | assumption | (simp only [*]; done)) (by first | rfl | assumption | (simp only [*]; done)) ?_
    refine gp_iload_n dX9_word_110 rfl ?_
    refine gp_ialv dX9_word_111 rfl (by first | rfl | assumption | (simp only [*]; done)) zqi (by first | exact zqw | exact rfl) ?_
    refine gp_ifc (t := 121) dX9_word_112 (by decide) c1_eq (fun h1 => ?_) (fun h1 => ?_)
    · refine gp_iinc (v := (1)) (ls' := [some (.ref _), some (.int _), some (.int _), some (.int _), _, _]) dX9_word_121 rfl (by decide) rfl ?_
      refine gp_iinc (v := (1)) (ls' := [some (.ref _), some (.int _), some (.int _), some (.int _), _, _]) dX9_word_124 rfl (by decide) rfl ?_
      refine gp_goto (t := 9) dX9_word_127 (by decide) ?_
      (rw [nI_1, nI_1, show y_of w + ((mm_sy w).length + 1) + 1 = y_of (w + 1) by rw [(of_s w hw).1]; rfl]; exact hcont)
    · exact absurd rfl h1
  | succ n ih =>
    intro j hj hcont
    have hl5 := (sy_len w hw).2
    obtain ⟨zqi, zqw, zqn⟩ := wOf_s hW hw (j := j) (by omega)
    refine gp_aload_n dX9_word_106 rfl ?_
    refine gp_gr dX9_word_107 mf_9_75 rfl (by first | rfl | assumption | (simp only [*]; done)) (by first | rfl | assumption | (simp only [*]; done)) ?_
    refine gp_iload_n dX9_word_110 rfl ?_
    refine gp_ialv dX9_word_111 rfl (by first | rfl | assumption | (simp only [*]; done)) zqi (by first | exact zqw | exact rfl) ?_
    refine gp_ifc (t := 121) dX9_word_112 (by decide) c1_eq (fun h1 => ?_) (fun h1 => ?_)
    · exact absurd h1 zqn
    · refine gp_iinc (v := (1)) (ls' := [some (.ref _), some (.int _), some (.int _), some (.int _), _, _]) dX9_word_115 rfl (by decide) rfl ?_
      refine gp_goto (t := 106) dX9_word_118 (by decide) ?_
      (rw [nI_1]; exact ih (j + 1) (by omega) hcont)

theorem lb_iff (t : Nat → Int32) (p w : Nat) : y_lk t (mm_sy w ++ [32]) p = (mm_sy w).length + 1 ↔ (y_W t p w ∧ t (p + (mm_sy w).length) = 32) := by
  rw [y_lb]
  unfold y_W
  by_cases h : y_lk t (mm_sy w) p = (mm_sy w).length
  · rw [if_pos h]
    by_cases h2 : t (p + (mm_sy w).length) = 32
    · rw [if_pos h2]; exact ⟨fun _ => ⟨h, h2⟩, fun _ => rfl⟩
    · rw [if_neg h2]; exact ⟨fun y => absurd y (by omega), fun y => absurd y.2 h2⟩
  · rw [if_neg h]
    have := y_lk_le (t := t) (mm_sy w) p
    exact ⟨fun y => absurd y (by omega), fun y => absurd y.1 h⟩
theorem y_mb_le (t : Nat → Int32) (p : Nat) : ∀ n, n ≤ 8 → y_mb t p n ≤ 6 := by
  intro n
  induction n with
  | zero => intro _; exact Nat.zero_le _
  | succ n ih =>
    intro hn
    have := ih (by omega)
    have := y_lk_le (t := t) (mm_sy n ++ [32]) p
    rw [lb_len] at this
    have := (sy_len n (by omega)).2
    rw [y_mb]
    omega

set_option maxHeartbeats 400000 in
theorem dn_w75f (d : Nat) {p : Nat} {Q : Option Value → mm_M → Prop} (hW : wOf J) (hw : w < 8) {x : Int32} (hm2 : (y_lk t (mm_sy w ++ [32]) p) = (mm_sy w).length + 1) (hq1 : ∀ w, w < 8 → y_W t p w → t (p + (mm_sy w).length) = 32 → Q (some (.int (nI w))) (mm_sh, mm_R, mm_u J 108 29 (nI (p + (mm_sy w).length + 1)), L)) : gP mm_cs0 d 9 false (some .int) cX9_word 75 [some (.ref 108), some (.int (nI (y_of w))), some (.int x), some (.int (nI w)), some (.int (nI (p + (y_lk t (mm_sy w ++ [32]) p)))), some (.int (nI (y_of w + (y_lk t (mm_sy w ++ [32]) p))))] [] (mm_sh, mm_R, J, L) Q := by
  obtain ⟨zqi, zqw⟩ := wOf_0 hW hw hm2
  refine gp_aload_n dX9_word_75 rfl ?_
  refine gp_gr dX9_word_76 mf_9_75 rfl (by first | rfl | assumption | (simp only [*]; done)) (by first | rfl | assumption | (simp only [*]; done)) ?_
  refine gp_iload dX9_word_79 rfl ?_
  refine gp_ialv dX9_word_81 rfl (by first | rfl | assumption | (simp only [*]; done)) zqi (by first | exact zqw | exact rfl) ?_
  refine gp_ifc (t := 93) dX9_word_82 (by decide) c1_ne (fun h1 => ?_) (fun h1 => ?_)
  · exact absurd rfl h1
  · refine gp_aload_n dX9_word_85 rfl ?_
    refine gp_iload dX9_word_86 rfl ?_
    refine gp_pi dX9_word_88 mf_9_176 rfl rfl (by first | rfl | assumption | (simp only [*]; done)) ?_
    refine gp_iload_n dX9_word_91 rfl ?_
    refine gp_iret dX9_word_92 rfl ?_
    (obtain ⟨y1, y2⟩ := (lb_iff t p w).mp hm2; rw [hm2, ← Nat.add_assoc]; exact hq1 w hw y1 y2)

set_option maxHeartbeats 400000 in
theorem dn_w75n (d : Nat) {p y : Nat} (hp : p ≤ 1000) (hy : y ≤ 100) {Q : Option Value → mm_M → Prop} (hW : wOf J) (hw : w < 8) (hm2 : ¬ (y_lk t (mm_sy w ++ [32]) p) = (mm_sy w).length + 1) (hk : ∀ v4 v5, gP mm_cs0 d 9 false (some .int) cX9_word 9 [some (.ref 108), some (.int (nI (y_of (w + 1)))), some (.int (nI (p + max y (y_lk t (mm_sy w ++ [32]) p)))), some (.int (nI (w + 1))), v4, v5] [] (mm_sh, mm_R, J, L) Q) : gP mm_cs0 d 9 false (some .int) cX9_word 75 [some (.ref 108), some (.int (nI (y_of w))), some (.int (nI (p + y))), some (.int (nI w)), some (.int (nI (p + (y_lk t (mm_sy w ++ [32]) p)))), some (.int (nI (y_of w + (y_lk t (mm_sy w ++ [32]) p))))] [] (mm_sh, mm_R, J, L) Q := by
  have hl5 := (sy_len w hw).2
  have hle := y_lk_le (t := t) (mm_sy w ++ [32]) p
  rw [lb_len] at hle
  obtain ⟨zqi, zqw, zqn⟩ := wOf_s hW hw (j := (y_lk t (mm_sy w ++ [32]) p)) (by omega)
  refine gp_aload_n dX9_word_75 rfl ?_
  refine gp_gr dX9_word_76 mf_9_75 rfl (by first | rfl | assumption | (simp only [*]; done)) (by first | rfl | assumption | (simp only [*]; done)) ?_
  refine gp_iload dX9_word_79 rfl ?_
  refine gp_ialv dX9_word_81 rfl (by first | rfl | assumption | (simp only [*]; done)) zqi (by first | exact zqw | exact rfl) ?_
  refine gp_ifc (t := 93) dX9_word_82 (by decide) c1_ne (fun h1 => ?_) (fun h1 => ?_)
  · refine gp_iload dX9_word_93 rfl ?_
    refine gp_iload_n dX9_word_95 rfl ?_
    refine gp_icc (t := 104) dX9_word_96 (by decide) c2_le (fun h2 => ?_) (fun h2 => ?_)
    · have h2' := Int32.not_lt.mpr h2
      refine gp_iload_n dX9_word_104 rfl ?_
      refine gp_istore_n (ls' := [some (.ref _), some (.int _), some (.int _), some (.int _), some (.int _), some (.int _)]) dX9_word_105 rfl (Nat.le_of_ble_eq_true rfl) ?_
      (have hmx : nI (p + y) = nI (p + max y (y_lk t (mm_sy w ++ [32]) p)) := by
        first | (have := (nI_leI (by omega) (by omega)).mp (by assumption : nI (p + y_lk t (mm_sy w ++ [32]) p) ≤ nI (p + y)); rw [Nat.max_eq_left (by omega)]) | (have := (nI_ltI (by omega) (by omega)).mp (by assumption : nI (p + y) < nI (p + y_lk t (mm_sy w ++ [32]) p)); rw [Nat.max_eq_right (by omega)])
       rw [hmx]
       exact lp_w106 d hW hw ((mm_sy w).length + 1) 0 (by omega) (hk _ _))
    · have h2' := Int32.not_le.mp h2
      refine gp_iload dX9_word_99 rfl ?_
      refine gp_goto (t := 105) dX9_word_101 (by decide) ?_
      refine gp_istore_n (ls' := [some (.ref _), some (.int _), some (.int _), some (.int _), some (.int _), some (.int _)]) dX9_word_105 rfl (Nat.le_of_ble_eq_true rfl) ?_
      (have hmx : nI (p + y_lk t (mm_sy w ++ [32]) p) = nI (p + max y (y_lk t (mm_sy w ++ [32]) p)) := by
        first | (have := (nI_leI (by omega) (by omega)).mp (by assumption : nI (p + y_lk t (mm_sy w ++ [32]) p) ≤ nI (p + y)); rw [Nat.max_eq_left (by omega)]) | (have := (nI_ltI (by omega) (by omega)).mp (by assumption : nI (p + y) < nI (p + y_lk t (mm_sy w ++ [32]) p)); rw [Nat.max_eq_right (by omega)])
       rw [hmx]
       exact lp_w106 d hW hw ((mm_sy w).length + 1) 0 (by omega) (hk _ _))
  · exact absurd (Classical.not_not.mp h1) zqn

set_option maxHeartbeats 400000 in
theorem lp_w9 (d : Nat) (htx : txM z t E L) {p : Nat} (hm : mst z E p J) (hpE : p ≤ E) (hW : wOf J) {Q : Option Value → mm_M → Prop} (hq1 : ∀ w, w < 8 → y_W t p w → t (p + (mm_sy w).length) = 32 → Q (some (.int (nI w))) (mm_sh, mm_R, mm_u J 108 29 (nI (p + (mm_sy w).length + 1)), L)) (hq2 : (∀ w, w < 8 → ¬ (y_W t p w ∧ t (p + (mm_sy w).length) = 32)) → Q (some (.int (-1))) (mm_sh, mm_R, mm_u J 108 32 (nI (p + y_mb t p 8)), L)) : ∀ (n i : Nat) (v4 v5 : Option Value), i + n = 8 → (∀ w, w < i → ¬ y_lk t (mm_sy w ++ [32]) p = (mm_sy w).length + 1) → gP mm_cs0 (d) 9 false (some .int) cX9_word 9 [some (.ref 108), some (.int (nI (y_of i))), some (.int (nI (p + y_mb t p i))), some (.int (nI i)), v4, v5] [] (mm_sh, mm_R, J, L) Q := by
  intro n
  induction n with
  | zero =>
    intro i v4 v5 hi hn
    obtain rfl : i = 8 := by omega
    have hE := htx.2.1
    have hc1 : (8 : Int32) ≤ nI 8 := by decide
    refine gp_iload_n dX9_word_9 rfl ?_
    refine gp_pu (st' := .int (8) :: _) dX9_word_10 rfl ?_
    refine gp_icc (t := 130) dX9_word_12 (by decide) c2_ge (fun h1 => ?_) (fun h1 => ?_)
    · have h1' := Int32.not_lt.mpr h1
      refine gp_aload_n dX9_word_130 rfl ?_
      refine gp_iload_n dX9_word_131 rfl ?_
      refine gp_pi dX9_word_132 mf_9_173 rfl rfl (by first | rfl | assumption | (simp only [*]; done)) ?_
      refine gp_pu (st' := .int (-1) :: _) dX9_word_135 rfl ?_
      refine gp_iret dX9_word_136 rfl ?_
      exact hq2 (fun w hw y => hn w hw ((lb_iff t p w).mpr y))
    · exact absurd hc1 h1
  | succ n ih =>
    intro i v4 v5 hi hn
    have hE := htx.2.1
    have hc1 : ¬ (8 : Int32) ≤ nI i := nI_ge (b := 8) (by omega) (by omega)
    refine gp_iload_n dX9_word_9 rfl ?_
    refine gp_pu (st' := .int (8) :: _) dX9_word_10 rfl ?_
    refine gp_icc (t := 130) dX9_word_12 (by decide) c2_ge (fun h1 => ?_) (fun h1 => ?_)
    · exact absurd h1 hc1
    · have h1' := Int32.not_le.mp h1
      refine gp_aload_n dX9_word_15 rfl ?_
      refine gp_giv dX9_word_16 mf_9_176 (by decide) (by first | rfl | assumption | (simp only [*]; done)) (by first | exact hm.2.1 | exact rfl) ?_
      refine gp_istore (ls' := [some (.ref _), some (.int _), some (.int _), some (.int _), some (.int _), _]) dX9_word_19 rfl (Nat.le_of_ble_eq_true rfl) ?_
      refine gp_iload_n dX9_word_21 rfl ?_
      refine gp_istore (ls' := [some (.ref _), some (.int _), some (.int _), some (.int _), some (.int _), some (.int _)]) dX9_word_22 rfl (Nat.le_of_ble_eq_true rfl) ?_
      (refine lp_w24 d htx (w := i) hm hpE hW (by omega) ((mm_sy i).length + 1) 0 (by omega) (Nat.zero_le _) ?_
       by_cases hm2 : y_lk t (mm_sy i ++ [32]) p = (mm_sy i).length + 1
       · exact dn_w75f d hW (by omega) hm2 hq1
       · refine dn_w75n d (by omega) (by have := y_mb_le t p i (by omega); omega) hW (by omega) hm2 ?_
         exact fun v4 v5 => ih (i + 1) v4 v5 (by omega) (fun w hw => by
           by_cases y : w = i
           · rw [y]; exact hm2
           · exact hn w (by omega)))

set_option maxHeartbeats 400000 in
theorem mt_word (d : Nat) (htx : txM z t E L) {p : Nat} (hm : mst z E p J) (hpE : p ≤ E) (hW : wOf J) {Q : Option Value → mm_M → Prop} (hq1 : ∀ w, w < 8 → y_W t p w → t (p + (mm_sy w).length) = 32 → Q (some (.int (nI w))) (mm_sh, mm_R, mm_u J 108 29 (nI (p + (mm_sy w).length + 1)), L)) (hq2 : (∀ w, w < 8 → ¬ (y_W t p w ∧ t (p + (mm_sy w).length) = 32)) → Q (some (.int (-1))) (mm_sh, mm_R, mm_u J 108 32 (nI (p + y_mb t p 8)), L)) : cP (d + 1) 157 [.ref 108] (mm_sh, mm_R, J, L) Q := by
  refine cP.of_gP (d := d + 0) me_157 ⟨Nat.le_of_ble_eq_true rfl, rfl⟩ ?_
  show gP mm_cs0 _ _ _ _ _ _ [some (.ref _), none, none, none, none, none] [] _ _
  refine gp_pu (st' := .int (0) :: _) dX9_word_0 rfl ?_
  refine gp_istore_n (ls' := [some (.ref _), some (.int _), none, none, none, none]) dX9_word_1 rfl (Nat.le_of_ble_eq_true rfl) ?_
  refine gp_aload_n dX9_word_2 rfl ?_
  refine gp_giv dX9_word_3 mf_9_176 (by decide) (by first | rfl | assumption | (simp only [*]; done)) (by first | exact hm.2.1 | exact rfl) ?_
  refine gp_istore_n (ls' := [some (.ref _), some (.int _), some (.int _), none, none, none]) dX9_word_6 rfl (Nat.le_of_ble_eq_true rfl) ?_
  refine gp_pu (st' := .int (0) :: _) dX9_word_7 rfl ?_
  refine gp_istore_n (ls' := [some (.ref _), some (.int _), some (.int _), some (.int _), none, none]) dX9_word_8 rfl (Nat.le_of_ble_eq_true rfl) ?_
  exact lp_w9 d htx hm hpE hW hq1 hq2 8 0 none none (by omega) (fun w hw => absurd hw (Nat.not_lt_zero w))
end P98wa
