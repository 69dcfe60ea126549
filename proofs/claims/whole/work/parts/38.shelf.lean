/-! LAYER A: shelves -/
theorem cs_none {k : Nat} {q : Nat × Nat} (h : mm_sh[k]? = some q) : mm_cs0 k = none := by
  have h1 : k < 138 := (List.getElem?_eq_some_iff.mp h).1
  unfold mm_cs0
  split <;> first | rfl | omega
def isSh (s : Nat) : Prop := mm_sh[s]? = some (7, 0) ∧ mm_R s 2 = some (s + 1) ∧ mm_sh[s + 1]? = some (101, 160)
theorem isSh_c : ∀ c, c < 8 → isSh (76 + 2 * c) ∧ mm_R 61 c = some (76 + 2 * c) := by
  intro c hc
  have : ∀ c, c < 8 → (mm_sh[76 + 2 * c]? = some (7, 0) ∧ mm_R (76 + 2 * c) 2 = some (76 + 2 * c + 1) ∧ mm_sh[76 + 2 * c + 1]? = some (101, 160)) ∧ mm_R 61 c = some (76 + 2 * c) := by decide
  exact this c hc
theorem mm_in_160 {x : Int32} : mm_in x 160 = true ↔ 0 ≤ x ∧ x < 160 := mm_in_i (n := 160) (by omega)
def x_fill (L : mL) (k n : Nat) (v : Int64) : mL := fun a b => if a = k ∧ b < n then v else L a b
theorem x_fill_0 (L : mL) (k : Nat) (v : Int64) : x_fill L k 0 v = L := by funext a b; simp [x_fill]
theorem x_fill_s (L : mL) (k n : Nat) (v : Int64) : mm_u (x_fill L k n v) k n v = x_fill L k (n + 1) v := by
  funext a b
  unfold mm_u x_fill
  by_cases h : a = k
  · subst h
    by_cases h2 : b = n
    · subst h2; simp
    · simp [h2]
      by_cases h3 : b < n
      · simp [h3, show b < n + 1 by omega]
      · simp [h3, show ¬ b < n + 1 by omega]
  · simp [h]
def x_at (I : mI) (L : mL) (s : Nat) (i : Int32) : Int64 := if 0 ≤ i ∧ i < I s 1 then L (s + 1) i.toNatClampNeg else 0
def x_low (h : Int32) (v : Int64) : Int64 := if h = 100 then v.toInt32.toInt8.toInt32.toInt64 else if h = 101 then v.toInt32.toInt16.toInt32.toInt64 else if h = 102 then v.toInt32.toInt64 else v
def isRow (h : Int32) : Prop := h = 100 ∨ h = 101 ∨ h = 102 ∨ h = 103

set_option maxHeartbeats 1000000 in
theorem lp_fill (d : Nat) (I : mI) (L : mL) (k : Nat) (hk : mm_sh[k]? = some (101, 160)) (v : Int64) : ∀ (n i : Nat), i + n = 160 → mm_Go mm_cs0 d 11 false none cJ7_fill_d0a16 6 [some (.ref k), some (.long v), none, some (.int (nI i)), some (.int (nI 160))] [] (mm_sh, mm_R, I, x_fill L k i v) none (mm_sh, mm_R, I, x_fill L k 160 v) := by
  intro n
  induction n with
  | zero =>
    intro i hi
    obtain rfl : i = 160 := by omega
    have hc : nI 160 ≤ nI 160 := by decide
    refine go_iload_n dJ7_fill_d0a16_6 rfl ?_
    refine go_iload dJ7_fill_d0a16_7 rfl ?_
    refine go_icc (t := 22) dJ7_fill_d0a16_9 (by decide) c2_ge (fun h1 => ?_) (fun h1 => ?_)
    · have h1' := Int32.not_lt.mpr h1
      refine go_vret dJ7_fill_d0a16_22 rfl ?_ ?_
      · first | with_reducible rfl | (simp [x_fill_0]; done)
      · first | with_reducible rfl | (simp [x_fill_0]; done)
    · exact absurd hc h1
  | succ n ih =>
    intro i hi
    have hc : ¬ nI 160 ≤ nI i := nI_ge (a := i) (b := 160) (by omega) (by omega)
    have hin : mm_in (nI i) 160 = true := (mm_in_i (n := 160) (by omega)).mpr ⟨nI_pos' (by omega), nI_lt (by omega) (by omega)⟩
    refine go_iload_n dJ7_fill_d0a16_6 rfl ?_
    refine go_iload dJ7_fill_d0a16_7 rfl ?_
    refine go_icc (t := 22) dJ7_fill_d0a16_9 (by decide) c2_ge (fun h1 => ?_) (fun h1 => ?_)
    · exact absurd h1 hc
    · have h1' := Int32.not_le.mp h1
      refine go_aload_n dJ7_fill_d0a16_12 rfl ?_
      refine go_iload_n dJ7_fill_d0a16_13 rfl ?_
      refine go_lload_n dJ7_fill_d0a16_14 rfl ?_
      refine go_las dJ7_fill_d0a16_15 hk hin ?_
      refine go_iinc (v := (1)) (ls' := [some (.ref _), some (.long _), none, some (.int _), some (.int _)]) dJ7_fill_d0a16_16 rfl (by decide) rfl ?_
      refine go_goto (t := 6) dJ7_fill_d0a16_19 (by decide) ?_
      rw [nI_1, nI_clamp (by omega), x_fill_s]
      exact ih (i + 1) (by omega)

set_option maxHeartbeats 1000000 in
theorem ok_J7_fill_d0a16 (d : Nat) (I : mI) (L : mL) (k : Nat) (hk : mm_sh[k]? = some (101, 160)) (v : Int64) : mm_Call (d + 1) 221 [.ref k, .long v] (mm_sh, mm_R, I, L) none (mm_sh, mm_R, I, (x_fill L k 160 v)) := by
  refine mm_Call.of_go (d := d + 0) me_221 ⟨Nat.le_of_ble_eq_true rfl, rfl⟩ ?_
  show mm_Go mm_cs0 _ _ _ _ _ _ [some (.ref _), some (.long _), none, none, none] [] _ _ _
  refine go_pu (st' := .int (0) :: _) dJ7_fill_d0a16_0 rfl ?_
  refine go_istore_n (ls' := [some (.ref _), some (.long _), none, some (.int _), none]) dJ7_fill_d0a16_1 rfl (Nat.le_of_ble_eq_true rfl) ?_
  refine go_aload_n dJ7_fill_d0a16_2 rfl ?_
  refine go_len dJ7_fill_d0a16_3 (cs_none hk) hk (by decide) rfl ?_
  refine go_istore (ls' := [some (.ref _), some (.long _), none, some (.int _), some (.int _)]) dJ7_fill_d0a16_4 rfl (Nat.le_of_ble_eq_true rfl) ?_
  have hz := lp_fill d I L k hk v 160 0 rfl
  rw [x_fill_0] at hz
  exact hz

set_option maxHeartbeats 1000000 in
theorem ok_X7_holdChild (d : Nat) (I : mI) (L : mL) (s : Nat) (hs : isSh s) (c : Int32) : mm_Call (d + 1) 54 [.ref s, .int c] (mm_sh, mm_R, I, L) none (mm_sh, mm_R, (sr I s (upd (upd (I s) 0 c) 1 0)), L) := by
  refine mm_Call.of_go (d := d + 0) me_54 ⟨Nat.le_of_ble_eq_true rfl, rfl⟩ ?_
  show mm_Go mm_cs0 _ _ _ _ _ _ [some (.ref _), some (.int _)] [] _ _ _
  refine go_aload_n dX7_holdChild_0 rfl ?_
  refine go_iload_n dX7_holdChild_1 rfl ?_
  refine go_pi dX7_holdChild_2 mf_7_9 rfl rfl hs.1 ?_
  refine go_aload_n dX7_holdChild_5 rfl ?_
  refine go_pu (st' := .int (0) :: _) dX7_holdChild_6 rfl ?_
  refine go_pi dX7_holdChild_7 mf_7_19 rfl rfl hs.1 ?_
  refine go_vret dX7_holdChild_10 rfl ?_ ?_
  · first | rfl | (simp [bi, mm_u_sr, sr_same, sr_sr, up_s, up_o, sr_other, up_up, *]; done) | ((try simp [mm_u_sr, sr_same, sr_sr, up_s, up_o, sr_other, up_up, -Int32.not_lt, -Int32.not_le] at *) <;> simp [bi, mm_u_sr, sr_same, sr_sr, up_s, up_o, sr_other, up_up, *, -Int32.not_lt, -Int32.not_le]; done) | (simp_all [bi, mm_u_sr, sr_same, sr_sr, up_s, up_o, sr_other, up_up]; done)
  · first | rfl | (simp [bi, mm_u_sr, sr_same, sr_sr, up_s, up_o, sr_other, up_up, *]; done) | ((try simp [mm_u_sr, sr_same, sr_sr, up_s, up_o, sr_other, up_up, -Int32.not_lt, -Int32.not_le] at *) <;> simp [bi, mm_u_sr, sr_same, sr_sr, up_s, up_o, sr_other, up_up, *, -Int32.not_lt, -Int32.not_le]; done) | (simp_all [bi, mm_u_sr, sr_same, sr_sr, up_s, up_o, sr_other, up_up]; done)

set_option maxHeartbeats 1000000 in
theorem ok_X7_holdRow (d : Nat) (I : mI) (L : mL) (s : Nat) (hs : isSh s) (c n : Int32) : mm_Call (d + 2) 53 [.ref s, .int c, .int n] (mm_sh, mm_R, I, L) none (mm_sh, mm_R, (sr I s (upd (upd (I s) 0 (100 + c)) 1 n)), (x_fill L (s + 1) 160 0)) := by
  refine mm_Call.of_go (d := d + 1) me_53 ⟨Nat.le_of_ble_eq_true rfl, rfl⟩ ?_
  show mm_Go mm_cs0 _ _ _ _ _ _ [some (.ref _), some (.int _), some (.int _)] [] _ _ _
  refine go_aload_n dX7_holdRow_0 rfl ?_
  refine go_pu (st' := .int (100) :: _) dX7_holdRow_1 rfl ?_
  refine go_iload_n dX7_holdRow_3 rfl ?_
  refine go_pu (st' := .int _ :: _) dX7_holdRow_4 rfl ?_
  refine go_pi dX7_holdRow_5 mf_7_9 rfl rfl hs.1 ?_
  refine go_aload_n dX7_holdRow_8 rfl ?_
  refine go_iload_n dX7_holdRow_9 rfl ?_
  refine go_pi dX7_holdRow_10 mf_7_19 rfl rfl hs.1 ?_
  refine go_aload_n dX7_holdRow_13 rfl ?_
  refine go_gr dX7_holdRow_14 mf_7_15 rfl hs.1 hs.2.1 ?_
  refine go_pu (st' := .long (0) :: _) dX7_holdRow_17 rfl ?_
  refine go_call (kind := 0) (args := [.ref _, .long _]) (rest := _) dX7_holdRow_18 (Or.inl ⟨rfl, rfl⟩) mk_7_22 (by decide) me_221 rfl rfl rfl rfl rfl rfl (ok_J7_fill_d0a16 _ _ _ _ hs.2.2 _) rfl ?_
  refine go_vret dX7_holdRow_21 rfl ?_ ?_
  · first | rfl | (simp [bi, mm_u_sr, sr_same, sr_sr, up_s, up_o, sr_other, up_up, *]; done) | ((try simp [mm_u_sr, sr_same, sr_sr, up_s, up_o, sr_other, up_up, -Int32.not_lt, -Int32.not_le] at *) <;> simp [bi, mm_u_sr, sr_same, sr_sr, up_s, up_o, sr_other, up_up, *, -Int32.not_lt, -Int32.not_le]; done) | (simp_all [bi, mm_u_sr, sr_same, sr_sr, up_s, up_o, sr_other, up_up]; done)
  · first | rfl | (simp [bi, mm_u_sr, sr_same, sr_sr, up_s, up_o, sr_other, up_up, *]; done) | ((try simp [mm_u_sr, sr_same, sr_sr, up_s, up_o, sr_other, up_up, -Int32.not_lt, -Int32.not_le] at *) <;> simp [bi, mm_u_sr, sr_same, sr_sr, up_s, up_o, sr_other, up_up, *, -Int32.not_lt, -Int32.not_le]; done) | (simp_all [bi, mm_u_sr, sr_same, sr_sr, up_s, up_o, sr_other, up_up]; done)

set_option maxHeartbeats 1000000 in
theorem ok_X7_at (d : Nat) (I : mI) (L : mL) (s : Nat) (hs : isSh s) (i : Int32) (hz : I s 1 ≤ 160) : mm_Call (d + 2) 57 [.ref s, .int i] (mm_sh, mm_R, I, L) (some (.long (x_at I L s i))) (mm_sh, mm_R, I, L) := by
  refine mm_Call.of_go (d := d + 1) me_57 ⟨Nat.le_of_ble_eq_true rfl, rfl⟩ ?_
  show mm_Go mm_cs0 _ _ _ _ _ _ [some (.ref _), some (.int _)] [] _ _ _
  refine go_aload_n dX7_at_0 rfl ?_
  refine go_iload_n dX7_at_1 rfl ?_
  refine go_call (kind := 1) (args := [.ref _, .int _]) (rest := _) dX7_at_2 (Or.inr (Or.inl ⟨rfl, rfl⟩)) mk_7_28 (by decide) me_51 rfl rfl rfl rfl rfl (mm_rc_of hs.1) (ok_X7_has _ _ _ _ hs.1 _) rfl ?_
  refine go_ifc (t := 17) dX7_at_5 (by decide) c1_eq (fun h1 => ?_) (fun h1 => ?_)
  · refine go_pu (st' := .long (0) :: _) dX7_at_17 rfl ?_
    refine go_lret dX7_at_18 rfl ?_ ?_
    · first | with_reducible rfl | (rw [x_at, if_pos hp]) | (rw [x_at, if_neg (bi_0.mp h1)]) | rfl
    · first | with_reducible rfl | (rw [x_at, if_pos hp]) | (rw [x_at, if_neg (bi_0.mp h1)]) | rfl
  · have hp := (Classical.not_not.mp (fun z => h1 (bi_0.mpr z)))
    refine go_aload_n dX7_at_8 rfl ?_
    refine go_gr dX7_at_9 mf_7_15 rfl hs.1 hs.2.1 ?_
    refine go_iload_n dX7_at_12 rfl ?_
    refine go_lal dX7_at_13 hs.2.2 (mm_in_160.mpr ⟨hp.1, Int32.lt_of_lt_of_le hp.2 hz⟩) ?_
    refine go_goto (t := 18) dX7_at_14 (by decide) ?_
    refine go_lret dX7_at_18 rfl ?_ ?_
    · first | with_reducible rfl | (rw [x_at, if_pos hp]) | (rw [x_at, if_neg (bi_0.mp h1)]) | rfl
    · first | with_reducible rfl | (rw [x_at, if_pos hp]) | (rw [x_at, if_neg (bi_0.mp h1)]) | rfl

set_option maxHeartbeats 1000000 in
theorem ok_X7_asInt (d : Nat) (I : mI) (L : mL) (s : Nat) (hs : isSh s) (i : Int32) (hz : I s 1 ≤ 160) : mm_Call (d + 3) 58 [.ref s, .int i] (mm_sh, mm_R, I, L) (some (.int (x_at I L s i).toInt32)) (mm_sh, mm_R, I, L) := by
  refine mm_Call.of_go (d := d + 2) me_58 ⟨Nat.le_of_ble_eq_true rfl, rfl⟩ ?_
  show mm_Go mm_cs0 _ _ _ _ _ _ [some (.ref _), some (.int _)] [] _ _ _
  refine go_aload_n dX7_asInt_0 rfl ?_
  refine go_iload_n dX7_asInt_1 rfl ?_
  refine go_call (kind := 1) (args := [.ref _, .int _]) (rest := _) dX7_asInt_2 (Or.inr (Or.inl ⟨rfl, rfl⟩)) mk_7_28 (by decide) me_51 rfl rfl rfl rfl rfl (mm_rc_of hs.1) (ok_X7_has _ _ _ _ hs.1 _) rfl ?_
  refine go_ifc (t := 18) dX7_asInt_5 (by decide) c1_eq (fun h1 => ?_) (fun h1 => ?_)
  · refine go_pu (st' := .int (0) :: _) dX7_asInt_18 rfl ?_
    refine go_iret dX7_asInt_19 rfl ?_ ?_
    · first | with_reducible rfl | (rw [x_at, if_pos hp]) | (rw [x_at, if_neg (bi_0.mp h1)]; done) | (rw [x_at, if_neg (bi_0.mp h1)]; rfl)
    · first | with_reducible rfl | (rw [x_at, if_pos hp]) | (rw [x_at, if_neg (bi_0.mp h1)]; done) | (rw [x_at, if_neg (bi_0.mp h1)]; rfl)
  · have hp := (Classical.not_not.mp (fun z => h1 (bi_0.mpr z)))
    refine go_aload_n dX7_asInt_8 rfl ?_
    refine go_gr dX7_asInt_9 mf_7_15 rfl hs.1 hs.2.1 ?_
    refine go_iload_n dX7_asInt_12 rfl ?_
    refine go_lal dX7_asInt_13 hs.2.2 (mm_in_160.mpr ⟨hp.1, Int32.lt_of_lt_of_le hp.2 hz⟩) ?_
    refine go_pu (st' := .int _ :: _) dX7_asInt_14 rfl ?_
    refine go_goto (t := 19) dX7_asInt_15 (by decide) ?_
    refine go_iret dX7_asInt_19 rfl ?_ ?_
    · first | with_reducible rfl | (rw [x_at, if_pos hp]) | (rw [x_at, if_neg (bi_0.mp h1)]; done) | (rw [x_at, if_neg (bi_0.mp h1)]; rfl)
    · first | with_reducible rfl | (rw [x_at, if_pos hp]) | (rw [x_at, if_neg (bi_0.mp h1)]; done) | (rw [x_at, if_neg (bi_0.mp h1)]; rfl)

set_option maxHeartbeats 1000000 in
theorem ok_X7_lowest (d : Nat) (I : mI) (L : mL) (s : Nat) (hs : isSh s) (v : Int64) (hr : isRow (I s 0)) : mm_Call (d + 1) 56 [.ref s, .long v] (mm_sh, mm_R, I, L) (some (.long (x_low (I s 0) v))) (mm_sh, mm_R, I, L) := by
  refine mm_Call.of_go (d := d + 0) me_56 ⟨Nat.le_of_ble_eq_true rfl, rfl⟩ ?_
  show mm_Go mm_cs0 _ _ _ _ _ _ [some (.ref _), some (.long _), none] [] _ _ _
  refine go_aload_n dX7_lowest_0 rfl ?_
  refine go_gi dX7_lowest_1 mf_7_9 (by decide) hs.1 ?_
  refine go_pu (st' := .int (100) :: _) dX7_lowest_4 rfl ?_
  refine go_pu (st' := .int _ :: _) dX7_lowest_6 rfl ?_
  rcases hr with hs | hs | hs | hs
  · refine go_ts (t := 32) dX7_lowest_7 (by rw [hs]; rfl) (by decide) ?_
    refine go_lload_n dX7_lowest_32 rfl ?_
    refine go_pu (st' := .int _ :: _) dX7_lowest_33 rfl ?_
    refine go_pu (st' := .int _ :: _) dX7_lowest_34 rfl ?_
    refine go_pu (st' := .long _ :: _) dX7_lowest_35 rfl ?_
    refine go_lret dX7_lowest_36 rfl ?_ ?_
    · first | rfl | (simp [x_low, mm_u_sr, sr_same, sr_sr, up_s, up_o, sr_other, up_up, *]; done) | ((try simp [mm_u_sr, sr_same, sr_sr, up_s, up_o, sr_other, up_up, -Int32.not_lt, -Int32.not_le] at *) <;> simp [x_low, mm_u_sr, sr_same, sr_sr, up_s, up_o, sr_other, up_up, *, -Int32.not_lt, -Int32.not_le]; done) | (simp_all [x_low, mm_u_sr, sr_same, sr_sr, up_s, up_o, sr_other, up_up]; done)
    · first | rfl | (simp [x_low, mm_u_sr, sr_same, sr_sr, up_s, up_o, sr_other, up_up, *]; done) | ((try simp [mm_u_sr, sr_same, sr_sr, up_s, up_o, sr_other, up_up, -Int32.not_lt, -Int32.not_le] at *) <;> simp [x_low, mm_u_sr, sr_same, sr_sr, up_s, up_o, sr_other, up_up, *, -Int32.not_lt, -Int32.not_le]; done) | (simp_all [x_low, mm_u_sr, sr_same, sr_sr, up_s, up_o, sr_other, up_up]; done)
  · refine go_ts (t := 37) dX7_lowest_7 (by rw [hs]; rfl) (by decide) ?_
    refine go_lload_n dX7_lowest_37 rfl ?_
    refine go_pu (st' := .int _ :: _) dX7_lowest_38 rfl ?_
    refine go_pu (st' := .int _ :: _) dX7_lowest_39 rfl ?_
    refine go_pu (st' := .long _ :: _) dX7_lowest_40 rfl ?_
    refine go_lret dX7_lowest_41 rfl ?_ ?_
    · first | rfl | (simp [x_low, mm_u_sr, sr_same, sr_sr, up_s, up_o, sr_other, up_up, *]; done) | ((try simp [mm_u_sr, sr_same, sr_sr, up_s, up_o, sr_other, up_up, -Int32.not_lt, -Int32.not_le] at *) <;> simp [x_low, mm_u_sr, sr_same, sr_sr, up_s, up_o, sr_other, up_up, *, -Int32.not_lt, -Int32.not_le]; done) | (simp_all [x_low, mm_u_sr, sr_same, sr_sr, up_s, up_o, sr_other, up_up]; done)
    · first | rfl | (simp [x_low, mm_u_sr, sr_same, sr_sr, up_s, up_o, sr_other, up_up, *]; done) | ((try simp [mm_u_sr, sr_same, sr_sr, up_s, up_o, sr_other, up_up, -Int32.not_lt, -Int32.not_le] at *) <;> simp [x_low, mm_u_sr, sr_same, sr_sr, up_s, up_o, sr_other, up_up, *, -Int32.not_lt, -Int32.not_le]; done) | (simp_all [x_low, mm_u_sr, sr_same, sr_sr, up_s, up_o, sr_other, up_up]; done)
  · refine go_ts (t := 42) dX7_lowest_7 (by rw [hs]; rfl) (by decide) ?_
    refine go_lload_n dX7_lowest_42 rfl ?_
    refine go_pu (st' := .int _ :: _) dX7_lowest_43 rfl ?_
    refine go_pu (st' := .long _ :: _) dX7_lowest_44 rfl ?_
    refine go_lret dX7_lowest_45 rfl ?_ ?_
    · first | rfl | (simp [x_low, mm_u_sr, sr_same, sr_sr, up_s, up_o, sr_other, up_up, *]; done) | ((try simp [mm_u_sr, sr_same, sr_sr, up_s, up_o, sr_other, up_up, -Int32.not_lt, -Int32.not_le] at *) <;> simp [x_low, mm_u_sr, sr_same, sr_sr, up_s, up_o, sr_other, up_up, *, -Int32.not_lt, -Int32.not_le]; done) | (simp_all [x_low, mm_u_sr, sr_same, sr_sr, up_s, up_o, sr_other, up_up]; done)
    · first | rfl | (simp [x_low, mm_u_sr, sr_same, sr_sr, up_s, up_o, sr_other, up_up, *]; done) | ((try simp [mm_u_sr, sr_same, sr_sr, up_s, up_o, sr_other, up_up, -Int32.not_lt, -Int32.not_le] at *) <;> simp [x_low, mm_u_sr, sr_same, sr_sr, up_s, up_o, sr_other, up_up, *, -Int32.not_lt, -Int32.not_le]; done) | (simp_all [x_low, mm_u_sr, sr_same, sr_sr, up_s, up_o, sr_other, up_up]; done)
  · refine go_ts (t := 46) dX7_lowest_7 (by rw [hs]; rfl) (by decide) ?_
    refine go_lload_n dX7_lowest_46 rfl ?_
    refine go_lret dX7_lowest_47 rfl ?_ ?_
    · first | rfl | (simp [x_low, mm_u_sr, sr_same, sr_sr, up_s, up_o, sr_other, up_up, *]; done) | ((try simp [mm_u_sr, sr_same, sr_sr, up_s, up_o, sr_other, up_up, -Int32.not_lt, -Int32.not_le] at *) <;> simp [x_low, mm_u_sr, sr_same, sr_sr, up_s, up_o, sr_other, up_up, *, -Int32.not_lt, -Int32.not_le]; done) | (simp_all [x_low, mm_u_sr, sr_same, sr_sr, up_s, up_o, sr_other, up_up]; done)
    · first | rfl | (simp [x_low, mm_u_sr, sr_same, sr_sr, up_s, up_o, sr_other, up_up, *]; done) | ((try simp [mm_u_sr, sr_same, sr_sr, up_s, up_o, sr_other, up_up, -Int32.not_lt, -Int32.not_le] at *) <;> simp [x_low, mm_u_sr, sr_same, sr_sr, up_s, up_o, sr_other, up_up, *, -Int32.not_lt, -Int32.not_le]; done) | (simp_all [x_low, mm_u_sr, sr_same, sr_sr, up_s, up_o, sr_other, up_up]; done)

def x_put (I : mI) (L : mL) (s : Nat) (i : Int32) (v : Int64) : mL := if 0 ≤ i ∧ i < I s 1 then mm_u L (s + 1) i.toNatClampNeg (x_low (I s 0) v) else L

set_option maxHeartbeats 1000000 in
theorem ok_X7_put (d : Nat) (I : mI) (L : mL) (s : Nat) (hs : isSh s) (i : Int32) (v : Int64) (hz : I s 1 ≤ 160) (hr : isRow (I s 0)) : mm_Call (d + 2) 55 [.ref s, .int i, .long v] (mm_sh, mm_R, I, L) none (mm_sh, mm_R, I, (x_put I L s i v)) := by
  refine mm_Call.of_go (d := d + 1) me_55 ⟨Nat.le_of_ble_eq_true rfl, rfl⟩ ?_
  show mm_Go mm_cs0 _ _ _ _ _ _ [some (.ref _), some (.int _), some (.long _), none] [] _ _ _
  refine go_aload_n dX7_put_0 rfl ?_
  refine go_iload_n dX7_put_1 rfl ?_
  refine go_call (kind := 1) (args := [.ref _, .int _]) (rest := _) dX7_put_2 (Or.inr (Or.inl ⟨rfl, rfl⟩)) mk_7_28 (by decide) me_51 rfl rfl rfl rfl rfl (mm_rc_of hs.1) (ok_X7_has _ _ _ _ hs.1 _) rfl ?_
  refine go_ifc (t := 19) dX7_put_5 (by decide) c1_eq (fun h1 => ?_) (fun h1 => ?_)
  · refine go_vret dX7_put_19 rfl ?_ ?_
    · first | with_reducible rfl | (rw [x_put, if_pos hp]) | (rw [x_put, if_neg (bi_0.mp h1)])
    · first | with_reducible rfl | (rw [x_put, if_pos hp]) | (rw [x_put, if_neg (bi_0.mp h1)])
  · have hp := (Classical.not_not.mp (fun z => h1 (bi_0.mpr z)))
    refine go_aload_n dX7_put_8 rfl ?_
    refine go_gr dX7_put_9 mf_7_15 rfl hs.1 hs.2.1 ?_
    refine go_iload_n dX7_put_12 rfl ?_
    refine go_aload_n dX7_put_13 rfl ?_
    refine go_lload_n dX7_put_14 rfl ?_
    refine go_call (kind := 1) (args := [.ref _, .long _]) (rest := _) dX7_put_15 (Or.inr (Or.inl ⟨rfl, rfl⟩)) mk_7_32 (by decide) me_56 rfl rfl rfl rfl rfl (mm_rc_of hs.1) (ok_X7_lowest _ _ _ _ hs _ hr) rfl ?_
    refine go_las dX7_put_18 hs.2.2 (mm_in_160.mpr ⟨hp.1, Int32.lt_of_lt_of_le hp.2 hz⟩) ?_
    refine go_vret dX7_put_19 rfl ?_ ?_
    · first | with_reducible rfl | (rw [x_put, if_pos hp]) | (rw [x_put, if_neg (bi_0.mp h1)])
    · first | with_reducible rfl | (rw [x_put, if_pos hp]) | (rw [x_put, if_neg (bi_0.mp h1)])
