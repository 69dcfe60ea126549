/-! LAYER A: what a shelf tells; the heats of a round -/
def x_akM (I : mI) (k : Int32) : Nat → mI
  | 0 => I
  | n + 1 => x_end (x_as (x_akM I k n) (nI n) k)
theorem x_akM_o (I : mI) (k : Int32) (n : Nat) {a : Nat} (h1 : a ≠ 62) (h2 : a ≠ 63) : x_akM I k n a = I a := by
  induction n with
  | zero => rfl
  | succ n ih => rw [x_akM, x_end_as _ _ _ h1 h2, ih]
def x_akT (I : mI) (k : Int32) (n : Nat) : Int32 := x_tim (x_as (x_akM I k n) (nI n) k)
theorem x_at_cg {I J : mI} {s : Nat} (h : J s = I s) (L : mL) (i : Int32) : x_at J L s i = x_at I L s i := by unfold x_at; rw [h]
/-- are the first ones of T as told, from i on: and how many were looked at -/
def x_aa (T U : Nat → Int32) : Nat → Nat → Int32 × Nat
  | 0, i => (1, i)
  | n + 1, i => if T i = U i then x_aa T U n (i + 1) else (0, i + 1)
def x_told (I : mI) (L : mL) (s : Nat) (i : Nat) : Int32 := (x_at I L s (nI i)).toInt32
theorem x_aa_t {T U : Nat → Int32} {n i : Nat} (h : T i = U i) : x_aa T U (n + 1) i = x_aa T U n (i + 1) := if_pos h
theorem x_aa_f {T U : Nat → Int32} {n i : Nat} (h : ¬ T i = U i) : x_aa T U (n + 1) i = (0, i + 1) := if_neg h
def x_wr (L : mL) (s : Nat) : Nat → Nat → Int32 → Int32 → mI → Int32 × mI
  | 0, _, _, _, M => (-1, M)
  | n + 1, i, w, b, M =>
    if ¬ (0 ≤ x_told M L s i ∧ x_told M L s i < M 1 1) ∨ (w >>> (x_told M L s i &&& 31)) &&& 1 = 1 then (nI i, M) else
    if x_tim (x_take M 62 1 (x_told M L s i)) < b then (nI i, x_end (x_take M 62 1 (x_told M L s i))) else
    x_wr L s n (i + 1) (w ||| ((1 : Int32) <<< (x_told M L s i &&& 31))) (x_tim (x_take M 62 1 (x_told M L s i))) (x_end (x_take M 62 1 (x_told M L s i)))
theorem x_wr_b {L : mL} {s n i : Nat} {w b : Int32} {M : mI} (q : ¬ (¬ (0 ≤ x_told M L s i ∧ x_told M L s i < M 1 1) ∨ (w >>> (x_told M L s i &&& 31)) &&& 1 = 1)) (r : ¬ b ≤ x_tim (x_take M 62 1 (x_told M L s i))) : x_wr L s (n + 1) i w b M = (nI i, x_end (x_take M 62 1 (x_told M L s i))) := by rw [x_wr, if_neg q, if_pos (Int32.not_le.mp r)]
theorem x_wr_c {L : mL} {s n i : Nat} {w b : Int32} {M : mI} (q : ¬ (¬ (0 ≤ x_told M L s i ∧ x_told M L s i < M 1 1) ∨ (w >>> (x_told M L s i &&& 31)) &&& 1 = 1)) (r : b ≤ x_tim (x_take M 62 1 (x_told M L s i))) : x_wr L s (n + 1) i w b M = x_wr L s n (i + 1) (w ||| ((1 : Int32) <<< (x_told M L s i &&& 31))) (x_tim (x_take M 62 1 (x_told M L s i))) (x_end (x_take M 62 1 (x_told M L s i))) := by rw [x_wr, if_neg q, if_neg (Int32.not_lt.mpr r)]
def x_ho (k : Int32) : Nat → Nat → Nat → Int32 → mI → Int32 × mI
  | 0, _, h, _, M => (nI h, M)
  | n + 1, i, h, f, M =>
    if nI i = nI h * k then x_ho k n (i + 1) (h + 1) (M 74 (nI i).toNatClampNeg) (mm_u M 74 (nI (h + 1) - 1).toNatClampNeg (M 74 (nI i).toNatClampNeg))
    else if M 73 f.toNatClampNeg ≤ M 73 (M 74 (nI i).toNatClampNeg).toNatClampNeg then x_ho k n (i + 1) h f (mm_u M 74 (nI h - 1).toNatClampNeg f)
    else x_ho k n (i + 1) h (M 74 (nI i).toNatClampNeg) (mm_u M 74 (nI h - 1).toNatClampNeg (M 74 (nI i).toNatClampNeg))

set_option maxHeartbeats 1000000 in
theorem lp_X8_allAsTold (d : Nat) (I : mI) (L : mL) (N : Nat) (hf : fOk I N) (s : Nat) (hs : isSh s) (hs6 : 76 ≤ s) (hz : I s 1 ≤ 160) (k : Int32) (hk : isKd k) : ∀ n i : Nat, i + n = N → mm_Go mm_cs0 (d + 5) 8 false (some .boolean) cX8_allAsTold 2 [some (.ref 0), some (.ref s), some (.int k), some (.int (nI i))] [] (mm_sh, mm_R, x_akM I k i, L) (some (.int (x_aa (x_akT I k) (x_told I L s) n i).1)) (mm_sh, mm_R, x_akM I k (x_aa (x_akT I k) (x_told I L s) n i).2, L) := by
  have h1c : ∀ i, x_akM I k i 1 1 = nI N := fun i => by rw [x_akM_o I k i (by decide) (by decide)]; exact hf.2.1
  have h8 := hf.1
  intro n
  induction n with
  | zero =>
    intro i hi
    obtain rfl : i = N := by omega
    have hc : x_akM I k i 1 1 ≤ nI i := by rw [h1c]; exact Int32.le_refl _
    refine go_iload_n dX8_allAsTold_2 rfl ?_
    refine go_aload_n dX8_allAsTold_3 rfl ?_
    refine go_gr dX8_allAsTold_4 mf_8_10 rfl (by first | rfl | assumption | (simp only [*]; done)) (by first | rfl | assumption | (simp only [*]; done)) ?_
    refine go_gi dX8_allAsTold_7 mf_8_154 (by decide) (by first | rfl | assumption | (simp only [*]; done)) ?_
    refine go_icc (t := 35) dX8_allAsTold_10 (by decide) c2_ge (fun h1 => ?_) (fun h1 => ?_)
    · have h1' := Int32.not_lt.mpr h1
      refine go_pu (st' := .int (1) :: _) dX8_allAsTold_35 rfl ?_
      refine go_zret dX8_allAsTold_36 rfl (by first | exact Or.inl rfl | exact Or.inr rfl | assumption) ?_ ?_
      · first | with_reducible rfl | rfl
      · first | with_reducible rfl | rfl
    · exact absurd hc h1
  | succ n ih =>
    intro i hi
    have hc : ¬ x_akM I k i 1 1 ≤ nI i := by rw [h1c]; exact nI_ge (by omega) (by omega)
    have hno : nOk (x_akM I k i) (nI i) := (hf.of (J := x_akM I k i) (fun a ha => x_akM_o I k i (by omega) (by omega))).n (by omega)
    have hsr : x_end (x_as (x_akM I k i) (nI i) k) s = I s := x_akM_o I k (i + 1) (by omega) (by omega)
    have hat : mm_Call (d + 5) 58 [.ref s, .int (nI i)] (mm_sh, mm_R, x_end (x_as (x_akM I k i) (nI i) k), L) (some (.int (x_told I L s i))) (mm_sh, mm_R, x_end (x_as (x_akM I k i) (nI i) k), L) := by
      have := ok_X7_asInt (d + 2) (x_end (x_as (x_akM I k i) (nI i) k)) L s hs (nI i) (by rw [hsr]; exact hz)
      rw [x_at_cg hsr] at this
      exact this
    refine go_iload_n dX8_allAsTold_2 rfl ?_
    refine go_aload_n dX8_allAsTold_3 rfl ?_
    refine go_gr dX8_allAsTold_4 mf_8_10 rfl (by first | rfl | assumption | (simp only [*]; done)) (by first | rfl | assumption | (simp only [*]; done)) ?_
    refine go_gi dX8_allAsTold_7 mf_8_154 (by decide) (by first | rfl | assumption | (simp only [*]; done)) ?_
    refine go_icc (t := 35) dX8_allAsTold_10 (by decide) c2_ge (fun h1 => ?_) (fun h1 => ?_)
    · exact absurd h1 hc
    · have h1' := Int32.not_le.mp h1
      refine go_aload_n dX8_allAsTold_13 rfl ?_
      refine go_iload_n dX8_allAsTold_14 rfl ?_
      refine go_iload_n dX8_allAsTold_15 rfl ?_
      refine go_call (kind := 1) (args := [.ref _, .int _, .int _]) (rest := _) dX8_allAsTold_16 (Or.inr (Or.inl ⟨rfl, rfl⟩)) mk_8_284 (by decide) me_110 rfl rfl rfl rfl rfl (mm_rc_of (by first | rfl | assumption | (simp only [*]; done))) (ok_X8_timeAs _ _ _ _ hno _ hk) rfl ?_
      refine go_aload_n dX8_allAsTold_19 rfl ?_
      refine go_iload_n dX8_allAsTold_20 rfl ?_
      refine go_call (kind := 1) (args := [.ref _, .int _]) (rest := _) dX8_allAsTold_21 (Or.inr (Or.inl ⟨rfl, rfl⟩)) mk_8_381 (by decide) me_58 rfl rfl rfl rfl rfl (mm_rc_of hs.1) hat rfl ?_
      refine go_icc (t := 29) dX8_allAsTold_24 (by decide) c2_eq (fun h2 => ?_) (fun h2 => ?_)
      · refine go_iinc (v := (1)) (ls' := [some (.ref _), some (.ref _), some (.int _), some (.int _)]) dX8_allAsTold_29 rfl (by decide) rfl ?_
        refine go_goto (t := 2) dX8_allAsTold_32 (by decide) ?_
        (rw [nI_1]; have hK := ih (i + 1) (by omega); rw [x_aa_t (T := x_akT I k) (U := x_told I L s) (n := n) (i := i) h2]; exact hK)
      · refine go_pu (st' := .int (0) :: _) dX8_allAsTold_27 rfl ?_
        refine go_zret dX8_allAsTold_28 rfl (by first | exact Or.inl rfl | exact Or.inr rfl | assumption) ?_ ?_
        · first | (rw [x_aa_f (T := x_akT I k) (U := x_told I L s) (n := n) (i := i) h2]; done) | (rw [x_aa_f (T := x_akT I k) (U := x_told I L s) (n := n) (i := i) h2]; rfl)
        · first | (rw [x_aa_f (T := x_akT I k) (U := x_told I L s) (n := n) (i := i) h2]; done) | (rw [x_aa_f (T := x_akT I k) (U := x_told I L s) (n := n) (i := i) h2]; rfl)

set_option maxHeartbeats 1000000 in
theorem ok_X8_allAsTold (d : Nat) (I : mI) (L : mL) (N : Nat) (hf : fOk I N) (s : Nat) (hs : isSh s) (hs6 : 76 ≤ s) (hz : I s 1 ≤ 160) (k : Int32) (hk : isKd k) : mm_Call (d + 6) 122 [.ref 0, .ref s, .int k] (mm_sh, mm_R, I, L) (some (.int (x_aa (x_akT I k) (x_told I L s) N 0).1)) (mm_sh, mm_R, (x_akM I k (x_aa (x_akT I k) (x_told I L s) N 0).2), L) := by
  refine mm_Call.of_go (d := d + 5) me_122 ⟨Nat.le_of_ble_eq_true rfl, rfl⟩ ?_
  show mm_Go mm_cs0 _ _ _ _ _ _ [some (.ref _), some (.ref _), some (.int _), none] [] _ _ _
  refine go_pu (st' := .int (0) :: _) dX8_allAsTold_0 rfl ?_
  refine go_istore_n (ls' := [some (.ref _), some (.ref _), some (.int _), some (.int _)]) dX8_allAsTold_1 rfl (Nat.le_of_ble_eq_true rfl) ?_
  exact lp_X8_allAsTold d I L N hf s hs hs6 hz k hk N 0 (Nat.zero_add N)

set_option maxHeartbeats 1000000 in
theorem lp_X8_wrongIn (d : Nat) (L : mL) (N m : Nat) (hm : m < 2 ^ 31) (s : Nat) (hs : isSh s) (hs6 : 76 ≤ s) : ∀ (n i : Nat) (w b : Int32) (v6 v7 : Option Value) (M : mI), i + n = m → fOk M N → M s 1 ≤ 160 → mm_Go mm_cs0 (d + 5) 8 false (some .int) cX8_wrongIn 8 [some (.ref 0), some (.ref s), some (.int (nI m)), some (.int w), some (.int b), some (.int (nI i)), v6, v7] [] (mm_sh, mm_R, M, L) (some (.int (x_wr L s n i w b M).1)) (mm_sh, mm_R, (x_wr L s n i w b M).2, L) := by
  intro n
  induction n with
  | zero =>
    intro i w b v6 v7 M hi hfM hz
    obtain rfl : i = m := by omega
    have hc : nI i ≤ nI i := Int32.le_refl _
    refine go_iload dX8_wrongIn_8 rfl ?_
    refine go_iload_n dX8_wrongIn_10 rfl ?_
    refine go_icc (t := 82) dX8_wrongIn_11 (by decide) c2_ge (fun h1 => ?_) (fun h1 => ?_)
    · have h1' := Int32.not_lt.mpr h1
      refine go_pu (st' := .int (-1) :: _) dX8_wrongIn_82 rfl ?_
      refine go_iret dX8_wrongIn_83 rfl ?_ ?_
      · first | with_reducible rfl | rfl
      · first | with_reducible rfl | rfl
    · exact absurd hc h1
  | succ n ih =>
    intro i w b v6 v7 M hi hfM hz
    have hc : ¬ nI m ≤ nI i := nI_ge (by omega) hm
    refine go_iload dX8_wrongIn_8 rfl ?_
    refine go_iload_n dX8_wrongIn_10 rfl ?_
    refine go_icc (t := 82) dX8_wrongIn_11 (by decide) c2_ge (fun h1 => ?_) (fun h1 => ?_)
    · exact absurd h1 hc
    · have h1' := Int32.not_le.mp h1
      refine go_aload_n dX8_wrongIn_14 rfl ?_
      refine go_iload dX8_wrongIn_15 rfl ?_
      refine go_call (kind := 1) (args := [.ref _, .int _]) (rest := _) dX8_wrongIn_17 (Or.inr (Or.inl ⟨rfl, rfl⟩)) mk_8_381 (by decide) me_58 rfl rfl rfl rfl rfl (mm_rc_of hs.1) (ok_X7_asInt _ _ _ _ hs _ hz) rfl ?_
      refine go_istore (ls' := [some (.ref _), some (.ref _), some (.int _), some (.int _), some (.int _), some (.int _), some (.int _), _]) dX8_wrongIn_20 rfl (Nat.le_of_ble_eq_true rfl) ?_
      refine go_aload_n dX8_wrongIn_22 rfl ?_
      refine go_gr dX8_wrongIn_23 mf_8_10 rfl (by first | rfl | assumption | (simp only [*]; done)) (by first | rfl | assumption | (simp only [*]; done)) ?_
      refine go_iload dX8_wrongIn_26 rfl ?_
      refine go_call (kind := 1) (args := [.ref _, .int _]) (rest := _) dX8_wrongIn_28 (Or.inr (Or.inl ⟨rfl, rfl⟩)) mk_8_126 (by decide) me_3 rfl rfl rfl rfl rfl (mm_rc_of (by first | rfl | assumption | (simp only [*]; done))) (ok_X1_hasChild _ _ _ _ isF_1.1 _) rfl ?_
      refine go_ifc (t := 44) dX8_wrongIn_31 (by decide) c1_eq (fun h2 => ?_) (fun h2 => ?_)
      · have hx : x_wr L s (n + 1) i w b M = (nI i, M) := by
          rw [x_wr, if_pos]
          first | exact Or.inl (bi_0.mp h2) | exact Or.inr (Classical.not_not.mp h3)
        refine go_iload dX8_wrongIn_44 rfl ?_
        refine go_iret dX8_wrongIn_46 rfl ?_ ?_
        · first | (rw [hx]; done) | (rw [hx]; rfl)
        · first | (rw [hx]; done) | (rw [hx]; rfl)
      · have hch := Classical.not_not.mp (fun z => h2 (bi_0.mpr z))
        refine go_iload_n dX8_wrongIn_34 rfl ?_
        refine go_iload dX8_wrongIn_35 rfl ?_
        refine go_pu (st' := .int _ :: _) dX8_wrongIn_37 rfl ?_
        refine go_pu (st' := .int (1) :: _) dX8_wrongIn_38 rfl ?_
        refine go_pu (st' := .int _ :: _) dX8_wrongIn_39 rfl ?_
        refine go_pu (st' := .int (1) :: _) dX8_wrongIn_40 rfl ?_
        refine go_icc (t := 47) dX8_wrongIn_41 (by decide) c2_ne (fun h3 => ?_) (fun h3 => ?_)
        · have hno : nOk M (x_told M L s i) := hfM.nC hch
          have hq : ¬ (¬ (0 ≤ x_told M L s i ∧ x_told M L s i < M 1 1) ∨ (w >>> (x_told M L s i &&& 31)) &&& 1 = 1) := fun z => z.elim (fun y => y hch) h3
          refine go_aload_n dX8_wrongIn_47 rfl ?_
          refine go_iload dX8_wrongIn_48 rfl ?_
          refine go_call (kind := 1) (args := [.ref _, .int _]) (rest := _) dX8_wrongIn_50 (Or.inr (Or.inl ⟨rfl, rfl⟩)) mk_8_268 (by decide) me_109 rfl rfl rfl rfl rfl (mm_rc_of (by first | rfl | assumption | (simp only [*]; done))) (ok_X8_timeOf _ _ _ _ hno) rfl ?_
          refine go_istore (ls' := [some (.ref _), some (.ref _), some (.int _), some (.int _), some (.int _), some (.int _), some (.int _), some (.int _)]) dX8_wrongIn_53 rfl (Nat.le_of_ble_eq_true rfl) ?_
          refine go_iload dX8_wrongIn_55 rfl ?_
          refine go_iload dX8_wrongIn_57 rfl ?_
          refine go_icc (t := 65) dX8_wrongIn_59 (by decide) c2_ge (fun h4 => ?_) (fun h4 => ?_)
          · have h4' := Int32.not_lt.mpr h4
            have hx := x_wr_c (L := L) (s := s) (n := n) (i := i) (w := w) (b := b) (M := M) hq h4
            refine go_iload_n dX8_wrongIn_65 rfl ?_
            refine go_pu (st' := .int (1) :: _) dX8_wrongIn_66 rfl ?_
            refine go_iload dX8_wrongIn_67 rfl ?_
            refine go_pu (st' := .int _ :: _) dX8_wrongIn_69 rfl ?_
            refine go_pu (st' := .int _ :: _) dX8_wrongIn_70 rfl ?_
            refine go_istore_n (ls' := [some (.ref _), some (.ref _), some (.int _), some (.int _), some (.int _), some (.int _), some (.int _), some (.int _)]) dX8_wrongIn_71 rfl (Nat.le_of_ble_eq_true rfl) ?_
            refine go_iload dX8_wrongIn_72 rfl ?_
            refine go_istore (ls' := [some (.ref _), some (.ref _), some (.int _), some (.int _), some (.int _), some (.int _), some (.int _), some (.int _)]) dX8_wrongIn_74 rfl (Nat.le_of_ble_eq_true rfl) ?_
            refine go_iinc (v := (1)) (ls' := [some (.ref _), some (.ref _), some (.int _), some (.int _), some (.int _), some (.int _), some (.int _), some (.int _)]) dX8_wrongIn_76 rfl (by decide) rfl ?_
            refine go_goto (t := 8) dX8_wrongIn_79 (by decide) ?_
            (rw [nI_1, hx]
             exact ih (i + 1) _ _ _ _ _ (by omega) (hfM.of (fun a ha => x_end_take _ _ (by omega) (by omega))) (by rw [x_end_take _ _ (by omega) (by omega)]; exact hz))
          · have h4' := Int32.not_le.mp h4
            have hx := x_wr_b (L := L) (s := s) (n := n) (i := i) (w := w) (b := b) (M := M) hq h4
            refine go_iload dX8_wrongIn_62 rfl ?_
            refine go_iret dX8_wrongIn_64 rfl ?_ ?_
            · first | (rw [hx]; done) | (rw [hx]; rfl)
            · first | (rw [hx]; done) | (rw [hx]; rfl)
        · have hx : x_wr L s (n + 1) i w b M = (nI i, M) := by
            rw [x_wr, if_pos]
            first | exact Or.inl (bi_0.mp h2) | exact Or.inr (Classical.not_not.mp h3)
          refine go_iload dX8_wrongIn_44 rfl ?_
          refine go_iret dX8_wrongIn_46 rfl ?_ ?_
          · first | (rw [hx]; done) | (rw [hx]; rfl)
          · first | (rw [hx]; done) | (rw [hx]; rfl)

set_option maxHeartbeats 1000000 in
theorem ok_X8_wrongIn (d : Nat) (I : mI) (L : mL) (N m : Nat) (hm : m < 2 ^ 31) (hf : fOk I N) (s : Nat) (hs : isSh s) (hs6 : 76 ≤ s) (hz : I s 1 ≤ 160) : mm_Call (d + 6) 121 [.ref 0, .ref s, .int (nI m)] (mm_sh, mm_R, I, L) (some (.int (x_wr L s m 0 0 0 I).1)) (mm_sh, mm_R, (x_wr L s m 0 0 0 I).2, L) := by
  refine mm_Call.of_go (d := d + 5) me_121 ⟨Nat.le_of_ble_eq_true rfl, rfl⟩ ?_
  show mm_Go mm_cs0 _ _ _ _ _ _ [some (.ref _), some (.ref _), some (.int _), none, none, none, none, none] [] _ _ _
  refine go_pu (st' := .int (0) :: _) dX8_wrongIn_0 rfl ?_
  refine go_istore_n (ls' := [some (.ref _), some (.ref _), some (.int _), some (.int _), none, none, none, none]) dX8_wrongIn_1 rfl (Nat.le_of_ble_eq_true rfl) ?_
  refine go_pu (st' := .int (0) :: _) dX8_wrongIn_2 rfl ?_
  refine go_istore (ls' := [some (.ref _), some (.ref _), some (.int _), some (.int _), some (.int _), none, none, none]) dX8_wrongIn_3 rfl (Nat.le_of_ble_eq_true rfl) ?_
  refine go_pu (st' := .int (0) :: _) dX8_wrongIn_5 rfl ?_
  refine go_istore (ls' := [some (.ref _), some (.ref _), some (.int _), some (.int _), some (.int _), some (.int _), none, none]) dX8_wrongIn_6 rfl (Nat.le_of_ble_eq_true rfl) ?_
  exact lp_X8_wrongIn d L N m hm s hs hs6 m 0 0 0 none none I (Nat.zero_add m) hf hz

theorem x_ho_a {k : Int32} {n i h : Nat} {f : Int32} {M : mI} (q : nI i = nI h * k) : x_ho k (n + 1) i h f M = x_ho k n (i + 1) (h + 1) (M 74 (nI i).toNatClampNeg) (mm_u M 74 (nI (h + 1) - 1).toNatClampNeg (M 74 (nI i).toNatClampNeg)) := by rw [x_ho, if_pos q]
theorem x_ho_b {k : Int32} {n i h : Nat} {f : Int32} {M : mI} (q : ¬ nI i = nI h * k) (r : M 73 f.toNatClampNeg ≤ M 73 (M 74 (nI i).toNatClampNeg).toNatClampNeg) : x_ho k (n + 1) i h f M = x_ho k n (i + 1) h f (mm_u M 74 (nI h - 1).toNatClampNeg f) := by rw [x_ho, if_neg q, if_pos r]
theorem x_ho_c {k : Int32} {n i h : Nat} {f : Int32} {M : mI} (q : ¬ nI i = nI h * k) (r : ¬ M 73 f.toNatClampNeg ≤ M 73 (M 74 (nI i).toNatClampNeg).toNatClampNeg) : x_ho k (n + 1) i h f M = x_ho k n (i + 1) h (M 74 (nI i).toNatClampNeg) (mm_u M 74 (nI h - 1).toNatClampNeg (M 74 (nI i).toNatClampNeg)) := by rw [x_ho, if_neg q, if_neg r]
theorem heat_in {h : Nat} (h0 : 0 < h) (h8 : h ≤ 8) : mm_in (nI h - 1) 8 = true := by
  obtain ⟨j, rfl⟩ : ∃ j, h = j + 1 := ⟨h - 1, by omega⟩
  rw [nI_pred]
  exact mm_in_8.mpr ⟨nI_pos' (by omega), nI_lt (b := 8) (by omega) (by omega)⟩
set_option maxHeartbeats 1000000 in
theorem lp_X8_heatsOfRound (d : Nat) (L : mL) (m : Nat) (hm : m ≤ 8) (k : Int32) : ∀ (n i h : Nat) (f : Int32) (v6 : Option Value) (M : mI), i + n = m → h ≤ i → (0 < i → 0 < h) → mm_in f 8 = true → (∀ j, j < m → mm_in (M 74 j) 8 = true) → mm_Go mm_cs0 d 8 false (some .int) cX8_heatsOfRound 8 [some (.ref 0), some (.int (nI m)), some (.int k), some (.int (nI h)), some (.int f), some (.int (nI i)), v6] [] (mm_sh, mm_R, M, L) (some (.int (x_ho k n i h f M).1)) (mm_sh, mm_R, (x_ho k n i h f M).2, L) := by
  intro n
  induction n with
  | zero =>
    intro i h f v6 M hi hh hp hff hg
    obtain rfl : i = m := by omega
    have hc : nI i ≤ nI i := Int32.le_refl _
    refine go_iload dX8_heatsOfRound_8 rfl ?_
    refine go_iload_n dX8_heatsOfRound_10 rfl ?_
    refine go_icc (t := 78) dX8_heatsOfRound_11 (by decide) c2_ge (fun h1 => ?_) (fun h1 => ?_)
    · have h1' := Int32.not_lt.mpr h1
      refine go_iload_n dX8_heatsOfRound_78 rfl ?_
      refine go_iret dX8_heatsOfRound_79 rfl ?_ ?_
      · first | with_reducible rfl | rfl
      · first | with_reducible rfl | rfl
    · exact absurd hc h1
  | succ n ih =>
    intro i h f v6 M hi hh hp hff hg
    have hc : ¬ nI m ≤ nI i := nI_ge (by omega) (by omega)
    have hix : mm_in (nI i) 8 = true := mm_in_8.mpr ⟨nI_pos' (by omega), nI_lt (b := 8) (by omega) (by omega)⟩
    have hin : mm_in (M 74 (nI i).toNatClampNeg) 8 = true := hg _ (by rw [nI_clamp (by omega)]; omega)
    refine go_iload dX8_heatsOfRound_8 rfl ?_
    refine go_iload_n dX8_heatsOfRound_10 rfl ?_
    refine go_icc (t := 78) dX8_heatsOfRound_11 (by decide) c2_ge (fun h1 => ?_) (fun h1 => ?_)
    · exact absurd h1 hc
    · have h1' := Int32.not_le.mp h1
      refine go_aload_n dX8_heatsOfRound_14 rfl ?_
      refine go_gr dX8_heatsOfRound_15 mf_8_64 rfl (by first | rfl | assumption | (simp only [*]; done)) (by first | rfl | assumption | (simp only [*]; done)) ?_
      refine go_iload dX8_heatsOfRound_18 rfl ?_
      refine go_ial dX8_heatsOfRound_20 rfl (by first | rfl | assumption | (simp only [*]; done)) hix ?_
      refine go_istore (ls' := [some (.ref _), some (.int _), some (.int _), some (.int _), some (.int _), some (.int _), some (.int _)]) dX8_heatsOfRound_21 rfl (Nat.le_of_ble_eq_true rfl) ?_
      refine go_iload dX8_heatsOfRound_23 rfl ?_
      refine go_iload_n dX8_heatsOfRound_25 rfl ?_
      refine go_iload_n dX8_heatsOfRound_26 rfl ?_
      refine go_pu (st' := .int _ :: _) dX8_heatsOfRound_27 rfl ?_
      refine go_icc (t := 41) dX8_heatsOfRound_28 (by decide) c2_ne (fun h2 => ?_) (fun h2 => ?_)
      · have h0 : 0 < h := by
          rcases Nat.eq_zero_or_pos i with z | z
          · exfalso
            obtain rfl : h = 0 := by omega
            obtain rfl : i = 0 := z
            exact h2 (by rw [nI_0, Int32.zero_mul])
          · omega
        have hhx := heat_in (h := h) h0 (by omega)
        refine go_aload_n dX8_heatsOfRound_41 rfl ?_
        refine go_gr dX8_heatsOfRound_42 mf_8_60 rfl (by first | rfl | assumption | (simp only [*]; done)) (by first | rfl | assumption | (simp only [*]; done)) ?_
        refine go_iload dX8_heatsOfRound_45 rfl ?_
        refine go_ial dX8_heatsOfRound_47 rfl (by first | rfl | assumption | (simp only [*]; done)) hin ?_
        refine go_aload_n dX8_heatsOfRound_48 rfl ?_
        refine go_gr dX8_heatsOfRound_49 mf_8_60 rfl (by first | rfl | assumption | (simp only [*]; done)) (by first | rfl | assumption | (simp only [*]; done)) ?_
        refine go_iload dX8_heatsOfRound_52 rfl ?_
        refine go_ial dX8_heatsOfRound_54 rfl (by first | rfl | assumption | (simp only [*]; done)) hff ?_
        refine go_icc (t := 62) dX8_heatsOfRound_55 (by decide) c2_ge (fun h3 => ?_) (fun h3 => ?_)
        · have h3' := Int32.not_lt.mpr h3
          have hx := x_ho_b (k := k) (n := n) (i := i) (h := h) (f := f) (M := M) h2 h3
          refine go_aload_n dX8_heatsOfRound_62 rfl ?_
          refine go_gr dX8_heatsOfRound_63 mf_8_64 rfl (by first | rfl | assumption | (simp only [*]; done)) (by first | rfl | assumption | (simp only [*]; done)) ?_
          refine go_iload_n dX8_heatsOfRound_66 rfl ?_
          refine go_pu (st' := .int (1) :: _) dX8_heatsOfRound_67 rfl ?_
          refine go_pu (st' := .int _ :: _) dX8_heatsOfRound_68 rfl ?_
          refine go_iload dX8_heatsOfRound_69 rfl ?_
          refine go_ias dX8_heatsOfRound_71 (by first | rfl | assumption | (simp only [*]; done)) hhx ?_
          refine go_iinc (v := (1)) (ls' := [some (.ref _), some (.int _), some (.int _), some (.int _), some (.int _), some (.int _), some (.int _)]) dX8_heatsOfRound_72 rfl (by decide) rfl ?_
          refine go_goto (t := 8) dX8_heatsOfRound_75 (by decide) ?_
          (rw [nI_1 i, hx]
           refine ih (i + 1) _ _ _ _ (by omega) (by omega) (by omega) (by first | exact hin | exact hff) ?_
           intro j hj
           rw [mm_u_sr, sr_same]
           unfold upd
           split
           · first | exact hin | exact hff
           · exact hg j hj)
        · have h3' := Int32.not_le.mp h3
          have hx := x_ho_c (k := k) (n := n) (i := i) (h := h) (f := f) (M := M) h2 h3
          refine go_iload dX8_heatsOfRound_58 rfl ?_
          refine go_istore (ls' := [some (.ref _), some (.int _), some (.int _), some (.int _), some (.int _), some (.int _), some (.int _)]) dX8_heatsOfRound_60 rfl (Nat.le_of_ble_eq_true rfl) ?_
          refine go_aload_n dX8_heatsOfRound_62 rfl ?_
          refine go_gr dX8_heatsOfRound_63 mf_8_64 rfl (by first | rfl | assumption | (simp only [*]; done)) (by first | rfl | assumption | (simp only [*]; done)) ?_
          refine go_iload_n dX8_heatsOfRound_66 rfl ?_
          refine go_pu (st' := .int (1) :: _) dX8_heatsOfRound_67 rfl ?_
          refine go_pu (st' := .int _ :: _) dX8_heatsOfRound_68 rfl ?_
          refine go_iload dX8_heatsOfRound_69 rfl ?_
          refine go_ias dX8_heatsOfRound_71 (by first | rfl | assumption | (simp only [*]; done)) hhx ?_
          refine go_iinc (v := (1)) (ls' := [some (.ref _), some (.int _), some (.int _), some (.int _), some (.int _), some (.int _), some (.int _)]) dX8_heatsOfRound_72 rfl (by decide) rfl ?_
          refine go_goto (t := 8) dX8_heatsOfRound_75 (by decide) ?_
          (rw [nI_1 i, hx]
           refine ih (i + 1) _ _ _ _ (by omega) (by omega) (by omega) (by first | exact hin | exact hff) ?_
           intro j hj
           rw [mm_u_sr, sr_same]
           unfold upd
           split
           · first | exact hin | exact hff
           · exact hg j hj)
      · have hx := x_ho_a (k := k) (n := n) (i := i) (h := h) (f := f) (M := M) (Classical.not_not.mp h2)
        refine go_iinc (v := (1)) (ls' := [some (.ref _), some (.int _), some (.int _), some (.int _), some (.int _), some (.int _), some (.int _)]) dX8_heatsOfRound_31 rfl (by decide) rfl ?_
        have hhx := heat_in (h := h + 1) (by omega) (by omega)
        refine go_iload dX8_heatsOfRound_34 rfl ?_
        rw [nI_1 h]
        refine go_istore (ls' := [some (.ref _), some (.int _), some (.int _), some (.int _), some (.int _), some (.int _), some (.int _)]) dX8_heatsOfRound_36 rfl (Nat.le_of_ble_eq_true rfl) ?_
        refine go_goto (t := 62) dX8_heatsOfRound_38 (by decide) ?_
        refine go_aload_n dX8_heatsOfRound_62 rfl ?_
        refine go_gr dX8_heatsOfRound_63 mf_8_64 rfl (by first | rfl | assumption | (simp only [*]; done)) (by first | rfl | assumption | (simp only [*]; done)) ?_
        refine go_iload_n dX8_heatsOfRound_66 rfl ?_
        refine go_pu (st' := .int (1) :: _) dX8_heatsOfRound_67 rfl ?_
        refine go_pu (st' := .int _ :: _) dX8_heatsOfRound_68 rfl ?_
        refine go_iload dX8_heatsOfRound_69 rfl ?_
        refine go_ias dX8_heatsOfRound_71 (by first | rfl | assumption | (simp only [*]; done)) hhx ?_
        refine go_iinc (v := (1)) (ls' := [some (.ref _), some (.int _), some (.int _), some (.int _), some (.int _), some (.int _), some (.int _)]) dX8_heatsOfRound_72 rfl (by decide) rfl ?_
        refine go_goto (t := 8) dX8_heatsOfRound_75 (by decide) ?_
        (rw [nI_1 i, hx]
         refine ih (i + 1) _ _ _ _ (by omega) (by omega) (by omega) (by first | exact hin | exact hff) ?_
         intro j hj
         rw [mm_u_sr, sr_same]
         unfold upd
         split
         · first | exact hin | exact hff
         · exact hg j hj)

set_option maxHeartbeats 1000000 in
theorem ok_X8_heatsOfRound (d : Nat) (I : mI) (L : mL) (m : Nat) (hm : m ≤ 8) (k : Int32) (hg : ∀ j, j < m → mm_in (I 74 j) 8 = true) : mm_Call (d + 1) 120 [.ref 0, .int (nI m), .int k] (mm_sh, mm_R, I, L) (some (.int (x_ho k m 0 0 0 I).1)) (mm_sh, mm_R, (x_ho k m 0 0 0 I).2, L) := by
  refine mm_Call.of_go (d := d + 0) me_120 ⟨Nat.le_of_ble_eq_true rfl, rfl⟩ ?_
  show mm_Go mm_cs0 _ _ _ _ _ _ [some (.ref _), some (.int _), some (.int _), none, none, none, none] [] _ _ _
  refine go_pu (st' := .int (0) :: _) dX8_heatsOfRound_0 rfl ?_
  refine go_istore_n (ls' := [some (.ref _), some (.int _), some (.int _), some (.int _), none, none, none]) dX8_heatsOfRound_1 rfl (Nat.le_of_ble_eq_true rfl) ?_
  refine go_pu (st' := .int (0) :: _) dX8_heatsOfRound_2 rfl ?_
  refine go_istore (ls' := [some (.ref _), some (.int _), some (.int _), some (.int _), some (.int _), none, none]) dX8_heatsOfRound_3 rfl (Nat.le_of_ble_eq_true rfl) ?_
  refine go_pu (st' := .int (0) :: _) dX8_heatsOfRound_5 rfl ?_
  refine go_istore (ls' := [some (.ref _), some (.int _), some (.int _), some (.int _), some (.int _), some (.int _), none]) dX8_heatsOfRound_6 rfl (Nat.le_of_ble_eq_true rfl) ?_
  exact lp_X8_heatsOfRound d L m hm k m 0 0 0 none I (Nat.zero_add m) (Nat.le_refl 0) (fun z => absurd z (by omega)) rfl hg
