/-! PUBLIC METHODS: copy -/
section P80
variable {I C J : pI} {L : pL} {N S : Nat}

def w_cp (I : pI) (p q i j n : Int32) : Int32 := if ¬ (0 ≤ p ∧ p < 8) ∨ ¬ (0 ≤ q ∧ q < 8) then -1 else if I 118 p.toNatClampNeg = 2 ∨ I 118 q.toNatClampNeg = 2 ∨ (I 118 p.toNatClampNeg = 1 ∧ I 118 q.toNatClampNeg = 1 ∧ ¬ I 119 p.toNatClampNeg = I 119 q.toNatClampNeg) then -2 else if I 118 p.toNatClampNeg = 0 ∨ I 118 q.toNatClampNeg = 0 then -3 else if n < 0 then -4 else if i < 0 ∨ j < 0 ∨ I 120 p.toNatClampNeg - n < i ∨ I 120 q.toNatClampNeg - n < j then -5 else 0
theorem w_cp_w (I : pI) (p q i j n : Int32) : w_cp I p q i j n = 0 ∨ isW (w_cp I p q i j n) := by unfold w_cp; (repeat' split) <;> first | exact Or.inl rfl | (right; unfold isW; decide)
theorem w_cp_3 {p q i j n : Int32} (h1 : 0 ≤ p ∧ p < 8) (h2 : 0 ≤ q ∧ q < 8) (h3 : ¬ I 118 p.toNatClampNeg = 2) (h4 : ¬ I 118 q.toNatClampNeg = 2) (h5 : ¬ (I 118 p.toNatClampNeg = 1 ∧ I 118 q.toNatClampNeg = 1 ∧ ¬ I 119 p.toNatClampNeg = I 119 q.toNatClampNeg)) (z : I 118 p.toNatClampNeg = 0 ∨ I 118 q.toNatClampNeg = 0) : w_cp I p q i j n = -3 := by
  unfold w_cp
  rw [if_neg (by rintro (y | y); exact y h1; exact y h2), if_neg (by rintro (y | y | y); exact h3 y; exact h4 y; exact h5 y), if_pos z]
theorem w_cp_0 (hS : ∀ s, s < 8 → rSh I s) {p q i j n : Int32} (z : w_cp I p q i j n = 0) : (0 ≤ p ∧ p < 8) ∧ (0 ≤ q ∧ q < 8) ∧ I 118 p.toNatClampNeg = 1 ∧ I 118 q.toNatClampNeg = 1 ∧ ¬ n < 0 ∧ ¬ i < 0 ∧ ¬ j < 0 ∧ ¬ I 120 p.toNatClampNeg - n < i ∧ ¬ I 120 q.toNatClampNeg - n < j := by
  unfold w_cp at z
  by_cases a : ¬ (0 ≤ p ∧ p < 8) ∨ ¬ (0 ≤ q ∧ q < 8)
  · rw [if_pos a] at z; exact absurd z (by decide)
  · rw [if_neg a] at z
    by_cases b : I 118 p.toNatClampNeg = 2 ∨ I 118 q.toNatClampNeg = 2 ∨ (I 118 p.toNatClampNeg = 1 ∧ I 118 q.toNatClampNeg = 1 ∧ ¬ I 119 p.toNatClampNeg = I 119 q.toNatClampNeg)
    · rw [if_pos b] at z; exact absurd z (by decide)
    · rw [if_neg b] at z
      by_cases c : I 118 p.toNatClampNeg = 0 ∨ I 118 q.toNatClampNeg = 0
      · rw [if_pos c] at z; exact absurd z (by decide)
      · rw [if_neg c] at z
        by_cases e : n < 0
        · rw [if_pos e] at z; exact absurd z (by decide)
        · rw [if_neg e] at z
          by_cases f : i < 0 ∨ j < 0 ∨ I 120 p.toNatClampNeg - n < i ∨ I 120 q.toNatClampNeg - n < j
          · rw [if_pos f] at z; exact absurd z (by decide)
          · have hp : 0 ≤ p ∧ p < 8 := Classical.byContradiction fun y => a (Or.inl y)
            have hq : 0 ≤ q ∧ q < 8 := Classical.byContradiction fun y => a (Or.inr y)
            refine ⟨hp, hq, ?_, ?_, e, fun y => f (Or.inl y), fun y => f (Or.inr (Or.inl y)), fun y => f (Or.inr (Or.inr (Or.inl y))), fun y => f (Or.inr (Or.inr (Or.inr y)))⟩
            · rcases sh_3 (hS _ (sh_s hp).2.2.2.2) with y | y | y
              · exact absurd (Or.inl y) c
              · exact y
              · exact absurd (Or.inl y) b
            · rcases sh_3 (hS _ (sh_s hq).2.2.2.2) with y | y | y
              · exact absurd (Or.inr y) c
              · exact y
              · exact absurd (Or.inr (Or.inl y)) b
/-- a part that is there -/
theorem cp_in {z n i : Int32} (hz : wi z 0 160) (hn : ¬ n < 0) (hi : ¬ i < 0) (h : ¬ z - n < i) : i.toNatClampNeg + n.toNatClampNeg ≤ 160 ∧ i.toInt + n.toInt ≤ 160 := by
  obtain ⟨a, b⟩ := hz
  rw [ti_lt, ti_0] at hn hi
  have hn2 := Int32.toInt_lt n
  have hi2 := Int32.toInt_lt i
  rw [ti_lt, ti_sub (by omega) (by omega)] at h
  unfold Int32.toNatClampNeg
  omega
theorem cp_pt {i n z : Int32} : (0 ≤ i ∧ 0 ≤ n ∧ i ≤ z) ↔ ¬ (i < 0 ∨ n < 0 ∨ z < i) := by
  rw [not_or, not_or, Int32.not_lt, Int32.not_lt, Int32.not_lt]
theorem cp_bi {d : Nat} {p q : Nat} {i j n : Int32} (hp : mm_sh[p]? = some (101, 160)) (hq : mm_sh[q]? = some (101, 160)) (hi : ¬ i < 0) (hj : ¬ j < 0) (hn : ¬ n < 0) (h1 : i.toNatClampNeg + n.toNatClampNeg ≤ 160) (h2 : j.toNatClampNeg + n.toNatClampNeg ≤ 160) : mm_bi d 906 [.ref p, .int i, .ref q, .int j, .int n] (mm_sh, mm_R, I, L) = some (none, mm_sh, mm_R, I, mm_cy L p q i.toNatClampNeg j.toNatClampNeg n.toNatClampNeg) := by
  rw [mm_bi_906]
  dsimp only
  rw [if_neg (by rintro (a | a | a); exact hi a; exact hj a; exact hn a), hp, hq]
  dsimp only
  rw [if_pos ⟨h1, h2, rfl⟩, if_neg (by decide), if_pos rfl]
theorem sh_ts (hb : bR I N S) {s t : Nat} (h : rSh I s) (h2 : rSh I t) : (100 ≤ I (76 + 2 * s) 0 ∧ 100 ≤ I (76 + 2 * t) 0 ∧ ¬ I (76 + 2 * s) 0 = I (76 + 2 * t) 0) ↔ (I 118 s = 1 ∧ I 118 t = 1 ∧ ¬ I 119 s = I 119 t) := by
  rw [sh_rw hb h, sh_rw hb h2]
  constructor
  · rintro ⟨a, b, c⟩
    refine ⟨a, b, fun z => c ?_⟩
    rcases h with h | h | h
    · rw [h.1] at a; exact absurd a (by decide)
    · rcases h2 with h2 | h2 | h2
      · rw [h2.1] at b; exact absurd b (by decide)
      · rw [h.2.2.1, h2.2.2.1, z]
      · rw [h2.1] at b; exact absurd b (by decide)
    · rw [h.1] at a; exact absurd a (by decide)
  · rintro ⟨a, b, c⟩
    refine ⟨a, b, fun z => c ?_⟩
    rcases h with h | h | h
    · rw [h.1] at a; exact absurd a (by decide)
    · rcases h2 with h2 | h2 | h2
      · rw [h2.1] at b; exact absurd b (by decide)
      · rw [h.2.2.1, h2.2.2.1, ti_eq, ti_sort h.2.1, ti_sort h2.2.1] at z
        rw [ti_eq]; omega
      · rw [h2.1] at b; exact absurd b (by decide)
    · rw [h.1] at a; exact absurd a (by decide)
theorem sh_1z {s : Nat} (h : rSh I s) (h1 : I 118 s = 1) : I (76 + 2 * s) 1 = I 120 s ∧ wi (I 120 s) 0 160 := by
  rcases h with h | h | h
  · rw [h.1] at h1; exact absurd h1 (by decide)
  · exact h.2.2.2
  · rw [h.1] at h1; exact absurd h1 (by decide)
def f_cp (p q i j n : Int32) (L : pL) : pL := mm_cy L (76 + 2 * p.toNatClampNeg + 1) (76 + 2 * q.toNatClampNeg + 1) i.toNatClampNeg j.toNatClampNeg n.toNatClampNeg

set_option maxHeartbeats 400000 in
theorem ct_twoS (d : Nat) {a b : Nat} (ha : mm_sh[a]? = some (7, 0)) (hb : mm_sh[b]? = some (7, 0)) : cP (d + 2) 106 [.ref a, .ref b] (mm_sh, mm_R, I, L) (pX (some (.int (bi (100 ≤ I a 0 ∧ 100 ≤ I b 0 ∧ ¬ I a 0 = I b 0)))) L (fun K => K = I)) := by
  refine cP.of_gP (d := d + 1) me_106 ⟨Nat.le_of_ble_eq_true rfl, rfl⟩ ?_
  show gP mm_cs0 _ _ _ _ _ _ [some (.ref _), some (.ref _)] [] _ _
  refine gp_aload_n dX8_areTwoSorts_0 rfl ?_
  refine gp_call (kind := 1) (args := [.ref _]) (rest := _) dX8_areTwoSorts_1 (Or.inr (Or.inl ⟨rfl, rfl⟩)) mk_8_105 (by decide) me_49 rfl rfl rfl rfl rfl (mm_rc_of (by first | rfl | assumption | (simp only [*]; done))) (ok_X7_hasRow _ _ _ _ (by assumption)) rfl ?_
  refine gp_ifc (t := 29) dX8_areTwoSorts_4 (by decide) c1_eq (fun h1 => ?_) (fun h1 => ?_)
  · (try simp only [bi_0, Classical.not_not] at h1)
    refine gp_pu (st' := .int (0) :: _) dX8_areTwoSorts_29 rfl ?_
    refine gp_zret dX8_areTwoSorts_30 rfl (by first | exact Or.inl rfl | exact Or.inr rfl | assumption) ?_
    (refine pX.mk (congrArg some (congrArg Value.int ?zqa)) rfl; (case zqa => first | exact (bi_f (fun z => h1 z.1)).symm | exact (bi_f (fun z => h2 z.2.1)).symm | exact (bi_f (fun z => z.2.2 h3)).symm | exact (bi_t ⟨h1, h2, h3⟩).symm))
  · (try simp only [bi_0, Classical.not_not] at h1)
    refine gp_aload_n dX8_areTwoSorts_7 rfl ?_
    refine gp_call (kind := 1) (args := [.ref _]) (rest := _) dX8_areTwoSorts_8 (Or.inr (Or.inl ⟨rfl, rfl⟩)) mk_8_105 (by decide) me_49 rfl rfl rfl rfl rfl (mm_rc_of (by first | rfl | assumption | (simp only [*]; done))) (ok_X7_hasRow _ _ _ _ (by assumption)) rfl ?_
    refine gp_ifc (t := 29) dX8_areTwoSorts_11 (by decide) c1_eq (fun h2 => ?_) (fun h2 => ?_)
    · (try simp only [bi_0, Classical.not_not] at h2)
      refine gp_pu (st' := .int (0) :: _) dX8_areTwoSorts_29 rfl ?_
      refine gp_zret dX8_areTwoSorts_30 rfl (by first | exact Or.inl rfl | exact Or.inr rfl | assumption) ?_
      (refine pX.mk (congrArg some (congrArg Value.int ?zqa)) rfl; (case zqa => first | exact (bi_f (fun z => h1 z.1)).symm | exact (bi_f (fun z => h2 z.2.1)).symm | exact (bi_f (fun z => z.2.2 h3)).symm | exact (bi_t ⟨h1, h2, h3⟩).symm))
    · (try simp only [bi_0, Classical.not_not] at h2)
      refine gp_aload_n dX8_areTwoSorts_14 rfl ?_
      refine gp_giv dX8_areTwoSorts_15 mf_8_132 (by decide) (by first | rfl | assumption | (simp only [*]; done)) (by first | exact rfl) ?_
      refine gp_aload_n dX8_areTwoSorts_18 rfl ?_
      refine gp_giv dX8_areTwoSorts_19 mf_8_132 (by decide) (by first | rfl | assumption | (simp only [*]; done)) (by first | exact rfl) ?_
      refine gp_icc (t := 29) dX8_areTwoSorts_22 (by decide) c2_eq (fun h3 => ?_) (fun h3 => ?_)
      · (try simp only [bi_0, Classical.not_not] at h3)
        refine gp_pu (st' := .int (0) :: _) dX8_areTwoSorts_29 rfl ?_
        refine gp_zret dX8_areTwoSorts_30 rfl (by first | exact Or.inl rfl | exact Or.inr rfl | assumption) ?_
        (refine pX.mk (congrArg some (congrArg Value.int ?zqa)) rfl; (case zqa => first | exact (bi_f (fun z => h1 z.1)).symm | exact (bi_f (fun z => h2 z.2.1)).symm | exact (bi_f (fun z => z.2.2 h3)).symm | exact (bi_t ⟨h1, h2, h3⟩).symm))
      · (try simp only [bi_0, Classical.not_not] at h3)
        refine gp_pu (st' := .int (1) :: _) dX8_areTwoSorts_25 rfl ?_
        refine gp_goto (t := 30) dX8_areTwoSorts_26 (by decide) ?_
        refine gp_zret dX8_areTwoSorts_30 rfl (by first | exact Or.inl rfl | exact Or.inr rfl | assumption) ?_
        (refine pX.mk (congrArg some (congrArg Value.int ?zqa)) rfl; (case zqa => first | exact (bi_f (fun z => h1 z.1)).symm | exact (bi_f (fun z => h2 z.2.1)).symm | exact (bi_f (fun z => z.2.2 h3)).symm | exact (bi_t ⟨h1, h2, h3⟩).symm))

set_option maxHeartbeats 400000 in
theorem cl_copy (d : Nat) (hb : bR I N S) (hS : ∀ s, s < 8 → rSh I s) {p q i j n : Int32} : cP (d + 4) 62 [.ref 0, .int p, .int q, .int i, .int j, .int n] (mm_sh, mm_R, I, L) (pX (some (.int (vq (w_cp I p q i j n) 1))) (lL (w_cp I p q i j n) (f_cp p q i j n L) L) (sc (uC (w_cp I p q i j n) I I))) := by
  have hs := sc.rf I
  have e11 : I 1 1 = nI N := hb.c11 hs
  have e13 : I 1 3 = nI S := hb.c13 hs
  refine cP.of_gP (d := d + 3) me_62 ⟨Nat.le_of_ble_eq_true rfl, rfl⟩ ?_
  show gP mm_cs0 _ _ _ _ _ _ [some (.ref _), some (.int _), some (.int _), some (.int _), some (.int _), some (.int _), none, none] [] _ _
  refine gp_iload_n dX8_copy_0 rfl ?_
  refine gp_call (kind := 0) (args := [.int _]) (rest := _) dX8_copy_1 (Or.inl ⟨rfl, rfl⟩) mk_8_75 (by decide) me_101 rfl rfl rfl rfl rfl rfl (ok_X8_isShelf _ _ _ _) rfl ?_
  refine gp_ifc (t := 14) dX8_copy_4 (by decide) c1_eq (fun h1 => ?_) (fun h1 => ?_)
  · ((try simp only [bi_0, Classical.not_not] at h1); (try rw [zqe] at h1); (try simp only [zqa, zqb, zqc, zqd] at h1); (try simp only [zqz1, zqy1, cp_pt, Classical.not_not] at h1))
    refine gp_aload_n dX8_copy_14 rfl ?_
    refine gp_pu (st' := .int (-1) :: _) dX8_copy_15 rfl ?_
    refine gp_call (kind := 1) (args := [.ref _, .int _]) (rest := _) dX8_copy_16 (Or.inr (Or.inl ⟨rfl, rfl⟩)) mk_8_79 (by decide) me_100 rfl rfl rfl rfl rfl (mm_rc_of (by first | rfl | assumption | (simp only [*]; done))) (ok_X8_refuse _ _ _ _) rfl ?_
    refine gp_iret dX8_copy_19 rfl ?_
    first | (refine uNo ?zqa ?zqc; (case zqa => (first | exact w_cp_3 h1 h2 h3 h4 h5 zq3 | ((simp [w_cp, *]; done)) | (exfalso; first | contradiction | (simp_all; done)))); (case zqc => (unfold isW; decide)))
  · ((try simp only [bi_0, Classical.not_not] at h1); (try rw [zqe] at h1); (try simp only [zqa, zqb, zqc, zqd] at h1); (try simp only [zqz1, zqy1, cp_pt, Classical.not_not] at h1))
    refine gp_iload_n dX8_copy_7 rfl ?_
    refine gp_call (kind := 0) (args := [.int _]) (rest := _) dX8_copy_8 (Or.inl ⟨rfl, rfl⟩) mk_8_75 (by decide) me_101 rfl rfl rfl rfl rfl rfl (ok_X8_isShelf _ _ _ _) rfl ?_
    refine gp_ifc (t := 20) dX8_copy_11 (by decide) c1_ne (fun h2 => ?_) (fun h2 => ?_)
    · ((try simp only [bi_0, Classical.not_not] at h2); (try rw [zqe] at h2); (try simp only [zqa, zqb, zqc, zqd] at h2); (try simp only [zqz1, zqy1, cp_pt, Classical.not_not] at h2))
      obtain ⟨zqs1, zqs2, zqs3, zqs4, zqs5⟩ := sh_s (s := p) h1
      obtain ⟨zqt1, zqt2, zqt3, zqt4, zqt5⟩ := sh_s (s := q) h2
      have zqsp := hS _ zqs5
      have zqsq := hS _ zqt5
      have zqa := sh_ch hb zqsp
      have zqb := sh_ch hb zqsq
      have zqc := sh_rw hb zqsp
      have zqd := sh_rw hb zqsq
      have zqe := sh_ts hb zqsp zqsq
      refine gp_aload_n dX8_copy_20 rfl ?_
      refine gp_gr dX8_copy_21 mf_8_24 rfl (by first | rfl | assumption | (simp only [*]; done)) (by first | rfl | assumption | (simp only [*]; done)) ?_
      refine gp_iload_n dX8_copy_24 rfl ?_
      refine gp_aal dX8_copy_25 (by first | rfl | assumption | (simp only [*]; done)) (by decide) (by first | rfl | assumption | (simp only [*]; done)) (by first | rfl | assumption | (simp only [*]; done)) ?_
      refine gp_astore (ls' := [some (.ref _), some (.int _), some (.int _), some (.int _), some (.int _), some (.int _), some (.ref _), none]) dX8_copy_26 rfl (Nat.le_of_ble_eq_true rfl) ?_
      refine gp_aload_n dX8_copy_28 rfl ?_
      refine gp_gr dX8_copy_29 mf_8_24 rfl (by first | rfl | assumption | (simp only [*]; done)) (by first | rfl | assumption | (simp only [*]; done)) ?_
      refine gp_iload_n dX8_copy_32 rfl ?_
      refine gp_aal dX8_copy_33 (by first | rfl | assumption | (simp only [*]; done)) (by decide) (by first | rfl | assumption | (simp only [*]; done)) (by first | rfl | assumption | (simp only [*]; done)) ?_
      refine gp_astore (ls' := [some (.ref _), some (.int _), some (.int _), some (.int _), some (.int _), some (.int _), some (.ref _), some (.ref _)]) dX8_copy_34 rfl (Nat.le_of_ble_eq_true rfl) ?_
      refine gp_aload dX8_copy_36 rfl ?_
      refine gp_call (kind := 1) (args := [.ref _]) (rest := _) dX8_copy_38 (Or.inr (Or.inl ⟨rfl, rfl⟩)) mk_8_97 (by decide) me_50 rfl rfl rfl rfl rfl (mm_rc_of (by first | rfl | assumption | (simp only [*]; done))) (ok_X7_hasChild _ _ _ _ zqs4) rfl ?_
      refine gp_ifc (t := 62) dX8_copy_41 (by decide) c1_ne (fun h3 => ?_) (fun h3 => ?_)
      · ((try simp only [bi_0, Classical.not_not] at h3); (try rw [zqe] at h3); (try simp only [zqa, zqb, zqc, zqd] at h3); (try simp only [zqz1, zqy1, cp_pt, Classical.not_not] at h3))
        refine gp_aload_n dX8_copy_62 rfl ?_
        refine gp_pu (st' := .int (-2) :: _) dX8_copy_63 rfl ?_
        refine gp_call (kind := 1) (args := [.ref _, .int _]) (rest := _) dX8_copy_65 (Or.inr (Or.inl ⟨rfl, rfl⟩)) mk_8_79 (by decide) me_100 rfl rfl rfl rfl rfl (mm_rc_of (by first | rfl | assumption | (simp only [*]; done))) (ok_X8_refuse _ _ _ _) rfl ?_
        refine gp_iret dX8_copy_68 rfl ?_
        first | (refine uNo ?zqa ?zqc; (case zqa => (first | exact w_cp_3 h1 h2 h3 h4 h5 zq3 | ((simp [w_cp, *]; done)) | (exfalso; first | contradiction | (simp_all; done)))); (case zqc => (unfold isW; decide)))
      · ((try simp only [bi_0, Classical.not_not] at h3); (try rw [zqe] at h3); (try simp only [zqa, zqb, zqc, zqd] at h3); (try simp only [zqz1, zqy1, cp_pt, Classical.not_not] at h3))
        refine gp_aload dX8_copy_44 rfl ?_
        refine gp_call (kind := 1) (args := [.ref _]) (rest := _) dX8_copy_46 (Or.inr (Or.inl ⟨rfl, rfl⟩)) mk_8_97 (by decide) me_50 rfl rfl rfl rfl rfl (mm_rc_of (by first | rfl | assumption | (simp only [*]; done))) (ok_X7_hasChild _ _ _ _ zqt4) rfl ?_
        refine gp_ifc (t := 62) dX8_copy_49 (by decide) c1_ne (fun h4 => ?_) (fun h4 => ?_)
        · ((try simp only [bi_0, Classical.not_not] at h4); (try rw [zqe] at h4); (try simp only [zqa, zqb, zqc, zqd] at h4); (try simp only [zqz1, zqy1, cp_pt, Classical.not_not] at h4))
          refine gp_aload_n dX8_copy_62 rfl ?_
          refine gp_pu (st' := .int (-2) :: _) dX8_copy_63 rfl ?_
          refine gp_call (kind := 1) (args := [.ref _, .int _]) (rest := _) dX8_copy_65 (Or.inr (Or.inl ⟨rfl, rfl⟩)) mk_8_79 (by decide) me_100 rfl rfl rfl rfl rfl (mm_rc_of (by first | rfl | assumption | (simp only [*]; done))) (ok_X8_refuse _ _ _ _) rfl ?_
          refine gp_iret dX8_copy_68 rfl ?_
          first | (refine uNo ?zqa ?zqc; (case zqa => (first | exact w_cp_3 h1 h2 h3 h4 h5 zq3 | ((simp [w_cp, *]; done)) | (exfalso; first | contradiction | (simp_all; done)))); (case zqc => (unfold isW; decide)))
        · ((try simp only [bi_0, Classical.not_not] at h4); (try rw [zqe] at h4); (try simp only [zqa, zqb, zqc, zqd] at h4); (try simp only [zqz1, zqy1, cp_pt, Classical.not_not] at h4))
          refine gp_aload dX8_copy_52 rfl ?_
          refine gp_aload dX8_copy_54 rfl ?_
          refine gp_callX (kind := 0) (args := [.ref _, .ref _]) (rest := _) dX8_copy_56 (Or.inl ⟨rfl, rfl⟩) mk_8_101 (by decide) me_106 rfl rfl rfl rfl rfl rfl (ct_twoS _ zqs4 zqt4) ?_
          intro K1 hK1
          rw [hK1]
          refine gp_ifc (t := 69) dX8_copy_59 (by decide) c1_eq (fun h5 => ?_) (fun h5 => ?_)
          · ((try simp only [bi_0, Classical.not_not] at h5); (try rw [zqe] at h5); (try simp only [zqa, zqb, zqc, zqd] at h5); (try simp only [zqz1, zqy1, cp_pt, Classical.not_not] at h5))
            refine gp_aload dX8_copy_69 rfl ?_
            refine gp_call (kind := 1) (args := [.ref _]) (rest := _) dX8_copy_71 (Or.inr (Or.inl ⟨rfl, rfl⟩)) mk_8_105 (by decide) me_49 rfl rfl rfl rfl rfl (mm_rc_of (by first | rfl | assumption | (simp only [*]; done))) (ok_X7_hasRow _ _ _ _ zqs4) rfl ?_
            refine gp_ifc (t := 85) dX8_copy_74 (by decide) c1_eq (fun h6 => ?_) (fun h6 => ?_)
            · ((try simp only [bi_0, Classical.not_not] at h6); (try rw [zqe] at h6); (try simp only [zqa, zqb, zqc, zqd] at h6); (try simp only [zqz1, zqy1, cp_pt, Classical.not_not] at h6))
              have zq3 : I 118 p.toNatClampNeg = 0 ∨ I 118 q.toNatClampNeg = 0 := by
                rcases sh_3 zqsp with z | z | z
                · exact Or.inl z
                · rcases sh_3 zqsq with y | y | y
                  · exact Or.inr y
                  · first | exact absurd z h6 | exact absurd y h7
                  · exact absurd y h4
                · exact absurd z h3
              refine gp_aload_n dX8_copy_85 rfl ?_
              refine gp_pu (st' := .int (-3) :: _) dX8_copy_86 rfl ?_
              refine gp_call (kind := 1) (args := [.ref _, .int _]) (rest := _) dX8_copy_88 (Or.inr (Or.inl ⟨rfl, rfl⟩)) mk_8_79 (by decide) me_100 rfl rfl rfl rfl rfl (mm_rc_of (by first | rfl | assumption | (simp only [*]; done))) (ok_X8_refuse _ _ _ _) rfl ?_
              refine gp_iret dX8_copy_91 rfl ?_
              first | (refine uNo ?zqa ?zqc; (case zqa => (first | exact w_cp_3 h1 h2 h3 h4 h5 zq3 | ((simp [w_cp, *]; done)) | (exfalso; first | contradiction | (simp_all; done)))); (case zqc => (unfold isW; decide)))
            · ((try simp only [bi_0, Classical.not_not] at h6); (try rw [zqe] at h6); (try simp only [zqa, zqb, zqc, zqd] at h6); (try simp only [zqz1, zqy1, cp_pt, Classical.not_not] at h6))
              refine gp_aload dX8_copy_77 rfl ?_
              refine gp_call (kind := 1) (args := [.ref _]) (rest := _) dX8_copy_79 (Or.inr (Or.inl ⟨rfl, rfl⟩)) mk_8_105 (by decide) me_49 rfl rfl rfl rfl rfl (mm_rc_of (by first | rfl | assumption | (simp only [*]; done))) (ok_X7_hasRow _ _ _ _ zqt4) rfl ?_
              refine gp_ifc (t := 92) dX8_copy_82 (by decide) c1_ne (fun h7 => ?_) (fun h7 => ?_)
              · ((try simp only [bi_0, Classical.not_not] at h7); (try rw [zqe] at h7); (try simp only [zqa, zqb, zqc, zqd] at h7); (try simp only [zqz1, zqy1, cp_pt, Classical.not_not] at h7))
                obtain ⟨zqz1, zqz2⟩ := sh_1z zqsp (by assumption)
                obtain ⟨zqy1, zqy2⟩ := sh_1z zqsq (by assumption)
                have zqso : I 119 p.toNatClampNeg = I 119 q.toNatClampNeg := Classical.byContradiction fun z => h5 ⟨h6, h7, z⟩
                refine gp_iload dX8_copy_92 rfl ?_
                refine gp_ifc (t := 104) dX8_copy_94 (by decide) c1_ge (fun h8 => ?_) (fun h8 => ?_)
                · have h8' := Int32.not_lt.mpr h8
                  ((try simp only [bi_0, Classical.not_not] at h8); (try rw [zqe] at h8); (try simp only [zqa, zqb, zqc, zqd] at h8); (try simp only [zqz1, zqy1, cp_pt, Classical.not_not] at h8))
                  refine gp_aload dX8_copy_104 rfl ?_
                  refine gp_iload_n dX8_copy_106 rfl ?_
                  refine gp_iload dX8_copy_107 rfl ?_
                  refine gp_call (kind := 1) (args := [.ref _, .int _, .int _]) (rest := _) dX8_copy_109 (Or.inr (Or.inl ⟨rfl, rfl⟩)) mk_8_108 (by decide) me_52 rfl rfl rfl rfl rfl (mm_rc_of (by first | rfl | assumption | (simp only [*]; done))) (ok_X7_hasPart _ _ _ _ zqs4 _ _) rfl ?_
                  refine gp_ifc (t := 127) dX8_copy_112 (by decide) c1_eq (fun h9 => ?_) (fun h9 => ?_)
                  · ((try simp only [bi_0, Classical.not_not] at h9); (try rw [zqe] at h9); (try simp only [zqa, zqb, zqc, zqd] at h9); (try simp only [zqz1, zqy1, cp_pt, Classical.not_not] at h9))
                    have zq5 : (i < 0 ∨ j < 0 ∨ I 120 p.toNatClampNeg - n < i ∨ I 120 q.toNatClampNeg - n < j) := by
                      first
                      | (rcases h10 with z | z | z
                         · exact Or.inr (Or.inl z)
                         · exact absurd z h8'
                         · exact Or.inr (Or.inr (Or.inr z)))
                      | (rcases h9 with z | z | z
                         · exact Or.inl z
                         · exact absurd z h8'
                         · exact Or.inr (Or.inr (Or.inl z)))
                    refine gp_aload_n dX8_copy_127 rfl ?_
                    refine gp_pu (st' := .int (-5) :: _) dX8_copy_128 rfl ?_
                    refine gp_call (kind := 1) (args := [.ref _, .int _]) (rest := _) dX8_copy_130 (Or.inr (Or.inl ⟨rfl, rfl⟩)) mk_8_79 (by decide) me_100 rfl rfl rfl rfl rfl (mm_rc_of (by first | rfl | assumption | (simp only [*]; done))) (ok_X8_refuse _ _ _ _) rfl ?_
                    refine gp_iret dX8_copy_133 rfl ?_
                    first | (refine uNo ?zqa ?zqc; (case zqa => (first | exact w_cp_3 h1 h2 h3 h4 h5 zq3 | ((simp [w_cp, *]; done)) | (exfalso; first | contradiction | (simp_all; done)))); (case zqc => (unfold isW; decide)))
                  · ((try simp only [bi_0, Classical.not_not] at h9); (try rw [zqe] at h9); (try simp only [zqa, zqb, zqc, zqd] at h9); (try simp only [zqz1, zqy1, cp_pt, Classical.not_not] at h9))
                    refine gp_aload dX8_copy_115 rfl ?_
                    refine gp_iload dX8_copy_117 rfl ?_
                    refine gp_iload dX8_copy_119 rfl ?_
                    refine gp_call (kind := 1) (args := [.ref _, .int _, .int _]) (rest := _) dX8_copy_121 (Or.inr (Or.inl ⟨rfl, rfl⟩)) mk_8_108 (by decide) me_52 rfl rfl rfl rfl rfl (mm_rc_of (by first | rfl | assumption | (simp only [*]; done))) (ok_X7_hasPart _ _ _ _ zqt4 _ _) rfl ?_
                    refine gp_ifc (t := 134) dX8_copy_124 (by decide) c1_ne (fun h10 => ?_) (fun h10 => ?_)
                    · ((try simp only [bi_0, Classical.not_not] at h10); (try rw [zqe] at h10); (try simp only [zqa, zqb, zqc, zqd] at h10); (try simp only [zqz1, zqy1, cp_pt, Classical.not_not] at h10))
                      have zqn0 : ¬ n < 0 := h8'
                      have zqi0 : ¬ i < 0 ∧ ¬ j < 0 ∧ ¬ I 120 p.toNatClampNeg - n < i ∧ ¬ I 120 q.toNatClampNeg - n < j := ⟨fun z => h9 (Or.inl z), fun z => h10 (Or.inl z), fun z => h9 (Or.inr (Or.inr z)), fun z => h10 (Or.inr (Or.inr z))⟩
                      refine gp_aload dX8_copy_134 rfl ?_
                      refine gp_gr dX8_copy_136 mf_8_112 rfl (by first | rfl | assumption | (simp only [*]; done)) zqs3.2.1 ?_
                      refine gp_iload_n dX8_copy_139 rfl ?_
                      refine gp_aload dX8_copy_140 rfl ?_
                      refine gp_gr dX8_copy_142 mf_8_112 rfl (by first | rfl | assumption | (simp only [*]; done)) zqt3.2.1 ?_
                      refine gp_iload dX8_copy_145 rfl ?_
                      refine gp_iload dX8_copy_147 rfl ?_
                      refine gp_bi (kind := 0) (args := [.ref _, .int _, .ref _, .int _, .int _]) (rest := _) dX8_copy_149 (Or.inl ⟨rfl, rfl⟩) mk_8_116 (by decide) rfl rfl rfl rfl (cp_bi zqs3.2.2 zqt3.2.2 zqi0.1 zqi0.2.1 zqn0 (cp_in zqz2 zqn0 zqi0.1 zqi0.2.2.1).1 (cp_in zqy2 zqn0 zqi0.2.1 zqi0.2.2.2).1) rfl ?_
                      refine gp_pu (st' := .int (1) :: _) dX8_copy_152 rfl ?_
                      refine gp_iret dX8_copy_153 rfl ?_
                      first | (refine uOk ?zqa ?zqb (sc.rf _); (case zqa => (first | exact w_cp_3 h1 h2 h3 h4 h5 zq3 | ((simp [w_cp, *]; done)) | (exfalso; first | contradiction | (simp_all; done)))); (case zqb => (exact rfl)))
                    · ((try simp only [bi_0, Classical.not_not] at h10); (try rw [zqe] at h10); (try simp only [zqa, zqb, zqc, zqd] at h10); (try simp only [zqz1, zqy1, cp_pt, Classical.not_not] at h10))
                      have zq5 : (i < 0 ∨ j < 0 ∨ I 120 p.toNatClampNeg - n < i ∨ I 120 q.toNatClampNeg - n < j) := by
                        first
                        | (rcases h10 with z | z | z
                           · exact Or.inr (Or.inl z)
                           · exact absurd z h8'
                           · exact Or.inr (Or.inr (Or.inr z)))
                        | (rcases h9 with z | z | z
                           · exact Or.inl z
                           · exact absurd z h8'
                           · exact Or.inr (Or.inr (Or.inl z)))
                      refine gp_aload_n dX8_copy_127 rfl ?_
                      refine gp_pu (st' := .int (-5) :: _) dX8_copy_128 rfl ?_
                      refine gp_call (kind := 1) (args := [.ref _, .int _]) (rest := _) dX8_copy_130 (Or.inr (Or.inl ⟨rfl, rfl⟩)) mk_8_79 (by decide) me_100 rfl rfl rfl rfl rfl (mm_rc_of (by first | rfl | assumption | (simp only [*]; done))) (ok_X8_refuse _ _ _ _) rfl ?_
                      refine gp_iret dX8_copy_133 rfl ?_
                      first | (refine uNo ?zqa ?zqc; (case zqa => (first | exact w_cp_3 h1 h2 h3 h4 h5 zq3 | ((simp [w_cp, *]; done)) | (exfalso; first | contradiction | (simp_all; done)))); (case zqc => (unfold isW; decide)))
                · have h8' := Int32.not_le.mp h8
                  ((try simp only [bi_0, Classical.not_not] at h8); (try rw [zqe] at h8); (try simp only [zqa, zqb, zqc, zqd] at h8); (try simp only [zqz1, zqy1, cp_pt, Classical.not_not] at h8))
                  refine gp_aload_n dX8_copy_97 rfl ?_
                  refine gp_pu (st' := .int (-4) :: _) dX8_copy_98 rfl ?_
                  refine gp_call (kind := 1) (args := [.ref _, .int _]) (rest := _) dX8_copy_100 (Or.inr (Or.inl ⟨rfl, rfl⟩)) mk_8_79 (by decide) me_100 rfl rfl rfl rfl rfl (mm_rc_of (by first | rfl | assumption | (simp only [*]; done))) (ok_X8_refuse _ _ _ _) rfl ?_
                  refine gp_iret dX8_copy_103 rfl ?_
                  first | (refine uNo ?zqa ?zqc; (case zqa => (first | exact w_cp_3 h1 h2 h3 h4 h5 zq3 | ((simp [w_cp, *]; done)) | (exfalso; first | contradiction | (simp_all; done)))); (case zqc => (unfold isW; decide)))
              · ((try simp only [bi_0, Classical.not_not] at h7); (try rw [zqe] at h7); (try simp only [zqa, zqb, zqc, zqd] at h7); (try simp only [zqz1, zqy1, cp_pt, Classical.not_not] at h7))
                have zq3 : I 118 p.toNatClampNeg = 0 ∨ I 118 q.toNatClampNeg = 0 := by
                  rcases sh_3 zqsp with z | z | z
                  · exact Or.inl z
                  · rcases sh_3 zqsq with y | y | y
                    · exact Or.inr y
                    · first | exact absurd z h6 | exact absurd y h7
                    · exact absurd y h4
                  · exact absurd z h3
                refine gp_aload_n dX8_copy_85 rfl ?_
                refine gp_pu (st' := .int (-3) :: _) dX8_copy_86 rfl ?_
                refine gp_call (kind := 1) (args := [.ref _, .int _]) (rest := _) dX8_copy_88 (Or.inr (Or.inl ⟨rfl, rfl⟩)) mk_8_79 (by decide) me_100 rfl rfl rfl rfl rfl (mm_rc_of (by first | rfl | assumption | (simp only [*]; done))) (ok_X8_refuse _ _ _ _) rfl ?_
                refine gp_iret dX8_copy_91 rfl ?_
                first | (refine uNo ?zqa ?zqc; (case zqa => (first | exact w_cp_3 h1 h2 h3 h4 h5 zq3 | ((simp [w_cp, *]; done)) | (exfalso; first | contradiction | (simp_all; done)))); (case zqc => (unfold isW; decide)))
          · ((try simp only [bi_0, Classical.not_not] at h5); (try rw [zqe] at h5); (try simp only [zqa, zqb, zqc, zqd] at h5); (try simp only [zqz1, zqy1, cp_pt, Classical.not_not] at h5))
            refine gp_aload_n dX8_copy_62 rfl ?_
            refine gp_pu (st' := .int (-2) :: _) dX8_copy_63 rfl ?_
            refine gp_call (kind := 1) (args := [.ref _, .int _]) (rest := _) dX8_copy_65 (Or.inr (Or.inl ⟨rfl, rfl⟩)) mk_8_79 (by decide) me_100 rfl rfl rfl rfl rfl (mm_rc_of (by first | rfl | assumption | (simp only [*]; done))) (ok_X8_refuse _ _ _ _) rfl ?_
            refine gp_iret dX8_copy_68 rfl ?_
            first | (refine uNo ?zqa ?zqc; (case zqa => (first | exact w_cp_3 h1 h2 h3 h4 h5 zq3 | ((simp [w_cp, *]; done)) | (exfalso; first | contradiction | (simp_all; done)))); (case zqc => (unfold isW; decide)))
    · ((try simp only [bi_0, Classical.not_not] at h2); (try rw [zqe] at h2); (try simp only [zqa, zqb, zqc, zqd] at h2); (try simp only [zqz1, zqy1, cp_pt, Classical.not_not] at h2))
      refine gp_aload_n dX8_copy_14 rfl ?_
      refine gp_pu (st' := .int (-1) :: _) dX8_copy_15 rfl ?_
      refine gp_call (kind := 1) (args := [.ref _, .int _]) (rest := _) dX8_copy_16 (Or.inr (Or.inl ⟨rfl, rfl⟩)) mk_8_79 (by decide) me_100 rfl rfl rfl rfl rfl (mm_rc_of (by first | rfl | assumption | (simp only [*]; done))) (ok_X8_refuse _ _ _ _) rfl ?_
      refine gp_iret dX8_copy_19 rfl ?_
      first | (refine uNo ?zqa ?zqc; (case zqa => (first | exact w_cp_3 h1 h2 h3 h4 h5 zq3 | ((simp [w_cp, *]; done)) | (exfalso; first | contradiction | (simp_all; done)))); (case zqc => (unfold isW; decide)))
end P80
