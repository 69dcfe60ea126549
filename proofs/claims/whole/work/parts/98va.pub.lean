/-! PUBLIC METHODS: field: the class reads words -/
section P98va
variable {I C J K : pI} {L : pL} {N S : Nat} {t : Nat → Int32} {z E : Nat}

theorem cP.call {d mi : Nat} {args : List Value} {M M1 : mm_M} {v : Option Value} (h : cP d mi args M (fun r M' => r = v ∧ M' = M1)) : mm_Call d mi args M v M1 := by
  obtain ⟨r, M', h1, rfl, rfl⟩ := h
  exact h1
theorem gp_aret {cs : mm_Cs} {d own : Nat} {ini : Bool} {rt : Option FieldType} {b : ByteArray} {pc : Nat} {ls : mm_Ls} {M : mm_M} {a : Nat} {Q : Option Value → mm_M → Prop} (hd : decode b pc = .ok (.areturn, 1)) (hr : rt = some (.object "java/lang/String")) (hq : Q (some (.ref a)) M) : gP cs d own ini rt b pc ls [.ref a] M Q := gP.of_go (go_aret hd hr rfl rfl) hq
/-- the text in the shelf at cell z -/
def txC (z : Nat) (t : Nat → Int32) (E : Nat) (L : pL) (J : pI) : Prop := isSh z ∧ E ≤ 160 ∧ J z 1 = nI E ∧ (∀ p, p < E → (L (z + 1) p).toInt32 = t p) ∧ ∀ p, E ≤ p → t p = 0
theorem ok_asT (d : Nat) (h : txC z t E L J) {x : Int32} {p : Nat} (hx : x = nI p) (hp : p ≤ 2000) : mm_Call (d + 3) 58 [.ref z, .int x] (mm_sh, mm_R, J, L) (some (.int (t p))) (mm_sh, mm_R, J, L) := by
  obtain ⟨h1, h2, h3, h4, h5⟩ := h
  have e := ok_X7_asInt d J L z h1 x (by rw [h3]; exact nI_le (b := 160) h2 (by omega))
  have e2 : (x_at J L z x).toInt32 = t p := by
    unfold x_at
    rw [hx, h3]
    by_cases q : p < E
    · rw [if_pos ⟨nI_pos' (by omega), nI_lt q (by omega)⟩, nI_clamp (by omega)]; exact h4 p q
    · rw [if_neg (fun w => absurd w.2 (nI_nlt (by omega) (by omega))), h5 p (by omega)]; rfl
  rw [e2] at e
  exact e
theorem bi_len {D w : Nat} {M : mm_M} (hD : 4 ≤ D) (hw : w < 8) : mm_bi D 904 [.ref (1100 + w)] M = some (some (.int (nI (mm_sy w).length)), M) := by
  have a : 1100 ≤ 1100 + w := Nat.le_add_right _ _
  have b : 1100 + w < 1108 := by omega
  have c : 1100 + w - 1100 = w := by omega
  rw [mm_bi_904]
  dsimp only
  rw [if_pos ⟨hD, a, b⟩, c]
  rfl
theorem bi_chr {D w j : Nat} {M : mm_M} (hD : 4 ≤ D) (hw : w < 8) (hj : j < (mm_sy w).length) : mm_bi D 905 [.ref (1100 + w), .int (nI j)] M = some (some (.int ((mm_sy w).getD j 0)), M) := by
  have h5 := (sy_len w hw).2
  have a : 1100 ≤ 1100 + w := Nat.le_add_right _ _
  have b : 1100 + w < 1108 := by omega
  have c : 1100 + w - 1100 = w := by omega
  have e : mm_in (nI j) (mm_sy w).length = true := (mm_in_i (n := (mm_sy w).length) (by omega)).mpr ⟨nI_pos' (by omega), nI_lt hj (by omega)⟩
  rw [mm_bi_905]
  dsimp only
  rw [c, if_pos ⟨hD, a, b, e⟩, nI_clamp (by omega)]

set_option maxHeartbeats 400000 in
theorem wo_0 (d : Nat) (M : mm_M) : mm_Call (d + 1) 43 [.int (0)] M (some (.ref 1100)) M := by
  refine cP.call ?_
  refine cP.of_gP (d := d + 0) me_43 ⟨Nat.le_of_ble_eq_true rfl, rfl⟩ ?_
  show gP mm_cs0 _ _ _ _ _ _ [some (.int _)] [] _ _
  refine gp_iload_n dX5_wordOf_0 rfl ?_
  refine gp_ts (t := 44) dX5_wordOf_1 rfl (by decide) ?_
  refine gp_ldcs dX5_wordOf_44 rfl rfl ?_
  refine gp_aret dX5_wordOf_46 rfl ?_
  exact ⟨rfl, rfl⟩

set_option maxHeartbeats 400000 in
theorem wo_1 (d : Nat) (M : mm_M) : mm_Call (d + 1) 43 [.int (1)] M (some (.ref 1101)) M := by
  refine cP.call ?_
  refine cP.of_gP (d := d + 0) me_43 ⟨Nat.le_of_ble_eq_true rfl, rfl⟩ ?_
  show gP mm_cs0 _ _ _ _ _ _ [some (.int _)] [] _ _
  refine gp_iload_n dX5_wordOf_0 rfl ?_
  refine gp_ts (t := 47) dX5_wordOf_1 rfl (by decide) ?_
  refine gp_ldcs dX5_wordOf_47 rfl rfl ?_
  refine gp_aret dX5_wordOf_49 rfl ?_
  exact ⟨rfl, rfl⟩

set_option maxHeartbeats 400000 in
theorem wo_2 (d : Nat) (M : mm_M) : mm_Call (d + 1) 43 [.int (2)] M (some (.ref 1102)) M := by
  refine cP.call ?_
  refine cP.of_gP (d := d + 0) me_43 ⟨Nat.le_of_ble_eq_true rfl, rfl⟩ ?_
  show gP mm_cs0 _ _ _ _ _ _ [some (.int _)] [] _ _
  refine gp_iload_n dX5_wordOf_0 rfl ?_
  refine gp_ts (t := 50) dX5_wordOf_1 rfl (by decide) ?_
  refine gp_ldcs dX5_wordOf_50 rfl rfl ?_
  refine gp_aret dX5_wordOf_52 rfl ?_
  exact ⟨rfl, rfl⟩

set_option maxHeartbeats 400000 in
theorem wo_3 (d : Nat) (M : mm_M) : mm_Call (d + 1) 43 [.int (3)] M (some (.ref 1103)) M := by
  refine cP.call ?_
  refine cP.of_gP (d := d + 0) me_43 ⟨Nat.le_of_ble_eq_true rfl, rfl⟩ ?_
  show gP mm_cs0 _ _ _ _ _ _ [some (.int _)] [] _ _
  refine gp_iload_n dX5_wordOf_0 rfl ?_
  refine gp_ts (t := 53) dX5_wordOf_1 rfl (by decide) ?_
  refine gp_ldcs dX5_wordOf_53 rfl rfl ?_
  refine gp_aret dX5_wordOf_55 rfl ?_
  exact ⟨rfl, rfl⟩

set_option maxHeartbeats 400000 in
theorem wo_4 (d : Nat) (M : mm_M) : mm_Call (d + 1) 43 [.int (4)] M (some (.ref 1104)) M := by
  refine cP.call ?_
  refine cP.of_gP (d := d + 0) me_43 ⟨Nat.le_of_ble_eq_true rfl, rfl⟩ ?_
  show gP mm_cs0 _ _ _ _ _ _ [some (.int _)] [] _ _
  refine gp_iload_n dX5_wordOf_0 rfl ?_
  refine gp_ts (t := 56) dX5_wordOf_1 rfl (by decide) ?_
  refine gp_ldcs dX5_wordOf_56 rfl rfl ?_
  refine gp_aret dX5_wordOf_58 rfl ?_
  exact ⟨rfl, rfl⟩

set_option maxHeartbeats 400000 in
theorem wo_5 (d : Nat) (M : mm_M) : mm_Call (d + 1) 43 [.int (5)] M (some (.ref 1105)) M := by
  refine cP.call ?_
  refine cP.of_gP (d := d + 0) me_43 ⟨Nat.le_of_ble_eq_true rfl, rfl⟩ ?_
  show gP mm_cs0 _ _ _ _ _ _ [some (.int _)] [] _ _
  refine gp_iload_n dX5_wordOf_0 rfl ?_
  refine gp_ts (t := 59) dX5_wordOf_1 rfl (by decide) ?_
  refine gp_ldcs dX5_wordOf_59 rfl rfl ?_
  refine gp_aret dX5_wordOf_61 rfl ?_
  exact ⟨rfl, rfl⟩

set_option maxHeartbeats 400000 in
theorem wo_6 (d : Nat) (M : mm_M) : mm_Call (d + 1) 43 [.int (6)] M (some (.ref 1106)) M := by
  refine cP.call ?_
  refine cP.of_gP (d := d + 0) me_43 ⟨Nat.le_of_ble_eq_true rfl, rfl⟩ ?_
  show gP mm_cs0 _ _ _ _ _ _ [some (.int _)] [] _ _
  refine gp_iload_n dX5_wordOf_0 rfl ?_
  refine gp_ts (t := 62) dX5_wordOf_1 rfl (by decide) ?_
  refine gp_ldcs dX5_wordOf_62 rfl rfl ?_
  refine gp_aret dX5_wordOf_64 rfl ?_
  exact ⟨rfl, rfl⟩

set_option maxHeartbeats 400000 in
theorem wo_7 (d : Nat) (M : mm_M) : mm_Call (d + 1) 43 [.int (7)] M (some (.ref 1107)) M := by
  refine cP.call ?_
  refine cP.of_gP (d := d + 0) me_43 ⟨Nat.le_of_ble_eq_true rfl, rfl⟩ ?_
  show gP mm_cs0 _ _ _ _ _ _ [some (.int _)] [] _ _
  refine gp_iload_n dX5_wordOf_0 rfl ?_
  refine gp_ts (t := 65) dX5_wordOf_1 rfl (by decide) ?_
  refine gp_ldcs dX5_wordOf_65 rfl rfl ?_
  refine gp_aret dX5_wordOf_67 rfl ?_
  exact ⟨rfl, rfl⟩

theorem ok_wordOf (d : Nat) (M : mm_M) {w : Nat} (hw : w < 8) : mm_Call (d + 1) 43 [.int (nI w)] M (some (.ref (1100 + w))) M := by
  have zqw : w = 0 ∨ w = 1 ∨ w = 2 ∨ w = 3 ∨ w = 4 ∨ w = 5 ∨ w = 6 ∨ w = 7 := by omega
  rcases zqw with rfl | rfl | rfl | rfl | rfl | rfl | rfl | rfl
  · exact wo_0 d M
  · exact wo_1 d M
  · exact wo_2 d M
  · exact wo_3 d M
  · exact wo_4 d M
  · exact wo_5 d M
  · exact wo_6 d M
  · exact wo_7 d M

set_option maxHeartbeats 400000 in
theorem no_0 (d : Nat) (M : mm_M) : mm_Call (d + 1) 44 [.int (0)] M (some (.int (3))) M := by
  refine cP.call ?_
  refine cP.of_gP (d := d + 0) me_44 ⟨Nat.le_of_ble_eq_true rfl, rfl⟩ ?_
  show gP mm_cs0 _ _ _ _ _ _ [some (.int _)] [] _ _
  refine gp_iload_n dX5_numbersOf_0 rfl ?_
  refine gp_ts (t := 32) dX5_numbersOf_1 rfl (by decide) ?_
  refine gp_pu (st' := .int (3) :: _) dX5_numbersOf_32 rfl ?_
  refine gp_iret dX5_numbersOf_33 rfl ?_
  exact ⟨rfl, rfl⟩

set_option maxHeartbeats 400000 in
theorem no_1 (d : Nat) (M : mm_M) : mm_Call (d + 1) 44 [.int (1)] M (some (.int (2))) M := by
  refine cP.call ?_
  refine cP.of_gP (d := d + 0) me_44 ⟨Nat.le_of_ble_eq_true rfl, rfl⟩ ?_
  show gP mm_cs0 _ _ _ _ _ _ [some (.int _)] [] _ _
  refine gp_iload_n dX5_numbersOf_0 rfl ?_
  refine gp_ts (t := 34) dX5_numbersOf_1 rfl (by decide) ?_
  refine gp_pu (st' := .int (2) :: _) dX5_numbersOf_34 rfl ?_
  refine gp_iret dX5_numbersOf_35 rfl ?_
  exact ⟨rfl, rfl⟩

set_option maxHeartbeats 400000 in
theorem no_2 (d : Nat) (M : mm_M) : mm_Call (d + 1) 44 [.int (2)] M (some (.int (2))) M := by
  refine cP.call ?_
  refine cP.of_gP (d := d + 0) me_44 ⟨Nat.le_of_ble_eq_true rfl, rfl⟩ ?_
  show gP mm_cs0 _ _ _ _ _ _ [some (.int _)] [] _ _
  refine gp_iload_n dX5_numbersOf_0 rfl ?_
  refine gp_ts (t := 34) dX5_numbersOf_1 rfl (by decide) ?_
  refine gp_pu (st' := .int (2) :: _) dX5_numbersOf_34 rfl ?_
  refine gp_iret dX5_numbersOf_35 rfl ?_
  exact ⟨rfl, rfl⟩

set_option maxHeartbeats 400000 in
theorem no_3 (d : Nat) (M : mm_M) : mm_Call (d + 1) 44 [.int (3)] M (some (.int (2))) M := by
  refine cP.call ?_
  refine cP.of_gP (d := d + 0) me_44 ⟨Nat.le_of_ble_eq_true rfl, rfl⟩ ?_
  show gP mm_cs0 _ _ _ _ _ _ [some (.int _)] [] _ _
  refine gp_iload_n dX5_numbersOf_0 rfl ?_
  refine gp_ts (t := 34) dX5_numbersOf_1 rfl (by decide) ?_
  refine gp_pu (st' := .int (2) :: _) dX5_numbersOf_34 rfl ?_
  refine gp_iret dX5_numbersOf_35 rfl ?_
  exact ⟨rfl, rfl⟩

set_option maxHeartbeats 400000 in
theorem no_4 (d : Nat) (M : mm_M) : mm_Call (d + 1) 44 [.int (4)] M (some (.int (1))) M := by
  refine cP.call ?_
  refine cP.of_gP (d := d + 0) me_44 ⟨Nat.le_of_ble_eq_true rfl, rfl⟩ ?_
  show gP mm_cs0 _ _ _ _ _ _ [some (.int _)] [] _ _
  refine gp_iload_n dX5_numbersOf_0 rfl ?_
  refine gp_ts (t := 36) dX5_numbersOf_1 rfl (by decide) ?_
  refine gp_pu (st' := .int (1) :: _) dX5_numbersOf_36 rfl ?_
  refine gp_iret dX5_numbersOf_37 rfl ?_
  exact ⟨rfl, rfl⟩

set_option maxHeartbeats 400000 in
theorem no_5 (d : Nat) (M : mm_M) : mm_Call (d + 1) 44 [.int (5)] M (some (.int (1))) M := by
  refine cP.call ?_
  refine cP.of_gP (d := d + 0) me_44 ⟨Nat.le_of_ble_eq_true rfl, rfl⟩ ?_
  show gP mm_cs0 _ _ _ _ _ _ [some (.int _)] [] _ _
  refine gp_iload_n dX5_numbersOf_0 rfl ?_
  refine gp_ts (t := 36) dX5_numbersOf_1 rfl (by decide) ?_
  refine gp_pu (st' := .int (1) :: _) dX5_numbersOf_36 rfl ?_
  refine gp_iret dX5_numbersOf_37 rfl ?_
  exact ⟨rfl, rfl⟩

set_option maxHeartbeats 400000 in
theorem no_6 (d : Nat) (M : mm_M) : mm_Call (d + 1) 44 [.int (6)] M (some (.int (1))) M := by
  refine cP.call ?_
  refine cP.of_gP (d := d + 0) me_44 ⟨Nat.le_of_ble_eq_true rfl, rfl⟩ ?_
  show gP mm_cs0 _ _ _ _ _ _ [some (.int _)] [] _ _
  refine gp_iload_n dX5_numbersOf_0 rfl ?_
  refine gp_ts (t := 36) dX5_numbersOf_1 rfl (by decide) ?_
  refine gp_pu (st' := .int (1) :: _) dX5_numbersOf_36 rfl ?_
  refine gp_iret dX5_numbersOf_37 rfl ?_
  exact ⟨rfl, rfl⟩

set_option maxHeartbeats 400000 in
theorem no_7 (d : Nat) (M : mm_M) : mm_Call (d + 1) 44 [.int (7)] M (some (.int (1))) M := by
  refine cP.call ?_
  refine cP.of_gP (d := d + 0) me_44 ⟨Nat.le_of_ble_eq_true rfl, rfl⟩ ?_
  show gP mm_cs0 _ _ _ _ _ _ [some (.int _)] [] _ _
  refine gp_iload_n dX5_numbersOf_0 rfl ?_
  refine gp_ts (t := 36) dX5_numbersOf_1 rfl (by decide) ?_
  refine gp_pu (st' := .int (1) :: _) dX5_numbersOf_36 rfl ?_
  refine gp_iret dX5_numbersOf_37 rfl ?_
  exact ⟨rfl, rfl⟩

theorem ok_numbersOf (d : Nat) (M : mm_M) {w : Nat} (hw : w < 8) : mm_Call (d + 1) 44 [.int (nI w)] M (some (.int (nI (y_cn w)))) M := by
  have zqw : w = 0 ∨ w = 1 ∨ w = 2 ∨ w = 3 ∨ w = 4 ∨ w = 5 ∨ w = 6 ∨ w = 7 := by omega
  rcases zqw with rfl | rfl | rfl | rfl | rfl | rfl | rfl | rfl
  · exact no_0 d M
  · exact no_1 d M
  · exact no_2 d M
  · exact no_3 d M
  · exact no_4 d M
  · exact no_5 d M
  · exact no_6 d M
  · exact no_7 d M

set_option maxHeartbeats 400000 in
theorem lo_0_0 (d : Nat) (J : pI) (L : pL) : mm_Call (d + 2) 45 [.int (0), .int (0)] (mm_sh, mm_R, J, L) (some (.int (0))) (mm_sh, mm_R, J, L) := by
  refine cP.call ?_
  refine cP.of_gP (d := d + 1) me_45 ⟨Nat.le_of_ble_eq_true rfl, rfl⟩ ?_
  show gP mm_cs0 _ _ _ _ _ _ [some (.int _), some (.int _)] [] _ _
  refine gp_iload_n dX5_leastOf_0 rfl ?_
  refine gp_ts (t := 32) dX5_leastOf_1 rfl (by decide) ?_
  refine gp_iload_n dX5_leastOf_32 rfl ?_
  refine gp_pu (st' := .int (2) :: _) dX5_leastOf_33 rfl ?_
  refine gp_icc (t := 41) dX5_leastOf_34 (by decide) c2_ne (fun h1 => ?_) (fun h1 => ?_)
  · refine gp_pu (st' := .int (0) :: _) dX5_leastOf_41 rfl ?_
    refine gp_iret dX5_leastOf_42 rfl ?_
    exact ⟨rfl, rfl⟩
  · exact absurd (by decide) h1

set_option maxHeartbeats 400000 in
theorem lo_0_1 (d : Nat) (J : pI) (L : pL) : mm_Call (d + 2) 45 [.int (0), .int (1)] (mm_sh, mm_R, J, L) (some (.int (0))) (mm_sh, mm_R, J, L) := by
  refine cP.call ?_
  refine cP.of_gP (d := d + 1) me_45 ⟨Nat.le_of_ble_eq_true rfl, rfl⟩ ?_
  show gP mm_cs0 _ _ _ _ _ _ [some (.int _), some (.int _)] [] _ _
  refine gp_iload_n dX5_leastOf_0 rfl ?_
  refine gp_ts (t := 32) dX5_leastOf_1 rfl (by decide) ?_
  refine gp_iload_n dX5_leastOf_32 rfl ?_
  refine gp_pu (st' := .int (2) :: _) dX5_leastOf_33 rfl ?_
  refine gp_icc (t := 41) dX5_leastOf_34 (by decide) c2_ne (fun h1 => ?_) (fun h1 => ?_)
  · refine gp_pu (st' := .int (0) :: _) dX5_leastOf_41 rfl ?_
    refine gp_iret dX5_leastOf_42 rfl ?_
    exact ⟨rfl, rfl⟩
  · exact absurd (by decide) h1

set_option maxHeartbeats 400000 in
theorem lo_0_2 (d : Nat) (J : pI) (L : pL) : mm_Call (d + 2) 45 [.int (0), .int (2)] (mm_sh, mm_R, J, L) (some (.int (1))) (mm_sh, mm_R, J, L) := by
  refine cP.call ?_
  refine cP.of_gP (d := d + 1) me_45 ⟨Nat.le_of_ble_eq_true rfl, rfl⟩ ?_
  show gP mm_cs0 _ _ _ _ _ _ [some (.int _), some (.int _)] [] _ _
  refine gp_iload_n dX5_leastOf_0 rfl ?_
  refine gp_ts (t := 32) dX5_leastOf_1 rfl (by decide) ?_
  refine gp_iload_n dX5_leastOf_32 rfl ?_
  refine gp_pu (st' := .int (2) :: _) dX5_leastOf_33 rfl ?_
  refine gp_icc (t := 41) dX5_leastOf_34 (by decide) c2_ne (fun h1 => ?_) (fun h1 => ?_)
  · exact absurd h1 (by decide)
  · refine gp_pu (st' := .int (1) :: _) dX5_leastOf_37 rfl ?_
    refine gp_goto (t := 42) dX5_leastOf_38 (by decide) ?_
    refine gp_iret dX5_leastOf_42 rfl ?_
    exact ⟨rfl, rfl⟩

set_option maxHeartbeats 400000 in
theorem lo_1_0 (d : Nat) (J : pI) (L : pL) : mm_Call (d + 2) 45 [.int (1), .int (0)] (mm_sh, mm_R, J, L) (some (.int (1))) (mm_sh, mm_R, J, L) := by
  refine cP.call ?_
  refine cP.of_gP (d := d + 1) me_45 ⟨Nat.le_of_ble_eq_true rfl, rfl⟩ ?_
  show gP mm_cs0 _ _ _ _ _ _ [some (.int _), some (.int _)] [] _ _
  refine gp_iload_n dX5_leastOf_0 rfl ?_
  refine gp_ts (t := 43) dX5_leastOf_1 rfl (by decide) ?_
  refine gp_iload_n dX5_leastOf_43 rfl ?_
  refine gp_ifc (t := 51) dX5_leastOf_44 (by decide) c1_ne (fun h1 => ?_) (fun h1 => ?_)
  · exact absurd h1 (by decide)
  · refine gp_pu (st' := .int (1) :: _) dX5_leastOf_47 rfl ?_
    refine gp_goto (t := 52) dX5_leastOf_48 (by decide) ?_
    refine gp_iret dX5_leastOf_52 rfl ?_
    exact ⟨rfl, rfl⟩

set_option maxHeartbeats 400000 in
theorem lo_1_1 (d : Nat) (J : pI) (L : pL) : mm_Call (d + 2) 45 [.int (1), .int (1)] (mm_sh, mm_R, J, L) (some (.int (0))) (mm_sh, mm_R, J, L) := by
  refine cP.call ?_
  refine cP.of_gP (d := d + 1) me_45 ⟨Nat.le_of_ble_eq_true rfl, rfl⟩ ?_
  show gP mm_cs0 _ _ _ _ _ _ [some (.int _), some (.int _)] [] _ _
  refine gp_iload_n dX5_leastOf_0 rfl ?_
  refine gp_ts (t := 43) dX5_leastOf_1 rfl (by decide) ?_
  refine gp_iload_n dX5_leastOf_43 rfl ?_
  refine gp_ifc (t := 51) dX5_leastOf_44 (by decide) c1_ne (fun h1 => ?_) (fun h1 => ?_)
  · refine gp_pu (st' := .int (0) :: _) dX5_leastOf_51 rfl ?_
    refine gp_iret dX5_leastOf_52 rfl ?_
    exact ⟨rfl, rfl⟩
  · exact absurd (by decide) h1

set_option maxHeartbeats 400000 in
theorem lo_2_0 (d : Nat) (J : pI) (L : pL) : mm_Call (d + 2) 45 [.int (2), .int (0)] (mm_sh, mm_R, J, L) (some (.int (0))) (mm_sh, mm_R, J, L) := by
  refine cP.call ?_
  refine cP.of_gP (d := d + 1) me_45 ⟨Nat.le_of_ble_eq_true rfl, rfl⟩ ?_
  show gP mm_cs0 _ _ _ _ _ _ [some (.int _), some (.int _)] [] _ _
  refine gp_iload_n dX5_leastOf_0 rfl ?_
  refine gp_ts (t := 53) dX5_leastOf_1 rfl (by decide) ?_
  refine gp_pu (st' := .int (0) :: _) dX5_leastOf_53 rfl ?_
  refine gp_iret dX5_leastOf_54 rfl ?_
  exact ⟨rfl, rfl⟩

set_option maxHeartbeats 400000 in
theorem lo_2_1 (d : Nat) (J : pI) (L : pL) : mm_Call (d + 2) 45 [.int (2), .int (1)] (mm_sh, mm_R, J, L) (some (.int (0))) (mm_sh, mm_R, J, L) := by
  refine cP.call ?_
  refine cP.of_gP (d := d + 1) me_45 ⟨Nat.le_of_ble_eq_true rfl, rfl⟩ ?_
  show gP mm_cs0 _ _ _ _ _ _ [some (.int _), some (.int _)] [] _ _
  refine gp_iload_n dX5_leastOf_0 rfl ?_
  refine gp_ts (t := 53) dX5_leastOf_1 rfl (by decide) ?_
  refine gp_pu (st' := .int (0) :: _) dX5_leastOf_53 rfl ?_
  refine gp_iret dX5_leastOf_54 rfl ?_
  exact ⟨rfl, rfl⟩

set_option maxHeartbeats 400000 in
theorem lo_3_0 (d : Nat) (J : pI) (L : pL) : mm_Call (d + 2) 45 [.int (3), .int (0)] (mm_sh, mm_R, J, L) (some (.int (0))) (mm_sh, mm_R, J, L) := by
  refine cP.call ?_
  refine cP.of_gP (d := d + 1) me_45 ⟨Nat.le_of_ble_eq_true rfl, rfl⟩ ?_
  show gP mm_cs0 _ _ _ _ _ _ [some (.int _), some (.int _)] [] _ _
  refine gp_iload_n dX5_leastOf_0 rfl ?_
  refine gp_ts (t := 53) dX5_leastOf_1 rfl (by decide) ?_
  refine gp_pu (st' := .int (0) :: _) dX5_leastOf_53 rfl ?_
  refine gp_iret dX5_leastOf_54 rfl ?_
  exact ⟨rfl, rfl⟩

set_option maxHeartbeats 400000 in
theorem lo_3_1 (d : Nat) (J : pI) (L : pL) : mm_Call (d + 2) 45 [.int (3), .int (1)] (mm_sh, mm_R, J, L) (some (.int (0))) (mm_sh, mm_R, J, L) := by
  refine cP.call ?_
  refine cP.of_gP (d := d + 1) me_45 ⟨Nat.le_of_ble_eq_true rfl, rfl⟩ ?_
  show gP mm_cs0 _ _ _ _ _ _ [some (.int _), some (.int _)] [] _ _
  refine gp_iload_n dX5_leastOf_0 rfl ?_
  refine gp_ts (t := 53) dX5_leastOf_1 rfl (by decide) ?_
  refine gp_pu (st' := .int (0) :: _) dX5_leastOf_53 rfl ?_
  refine gp_iret dX5_leastOf_54 rfl ?_
  exact ⟨rfl, rfl⟩

set_option maxHeartbeats 400000 in
theorem lo_4_0 (d : Nat) (J : pI) (L : pL) : mm_Call (d + 2) 45 [.int (4), .int (0)] (mm_sh, mm_R, J, L) (some (.int (1))) (mm_sh, mm_R, J, L) := by
  refine cP.call ?_
  refine cP.of_gP (d := d + 1) me_45 ⟨Nat.le_of_ble_eq_true rfl, rfl⟩ ?_
  show gP mm_cs0 _ _ _ _ _ _ [some (.int _), some (.int _)] [] _ _
  refine gp_iload_n dX5_leastOf_0 rfl ?_
  refine gp_ts (t := 55) dX5_leastOf_1 rfl (by decide) ?_
  refine gp_iload_n dX5_leastOf_55 rfl ?_
  refine gp_pu (st' := .int (4) :: _) dX5_leastOf_56 rfl ?_
  refine gp_pu (st' := .int _ :: _) dX5_leastOf_57 rfl ?_
  refine gp_call (kind := 0) (args := [.int _]) (rest := _) dX5_leastOf_58 (Or.inl ⟨rfl, rfl⟩) mk_5_137 (by decide) me_103 rfl rfl rfl rfl rfl rfl (ok_X8_isTerm _ _ _ _) rfl ?_
  refine gp_ifc (t := 74) dX5_leastOf_61 (by decide) c1_eq (fun h1 => ?_) (fun h1 => ?_)
  · exact absurd h1 (by decide)
  · refine gp_gs dX5_leastOf_64 rfl ?_
    refine gp_iload_n dX5_leastOf_67 rfl ?_
    refine gp_pu (st' := .int (4) :: _) dX5_leastOf_68 rfl ?_
    refine gp_pu (st' := .int _ :: _) dX5_leastOf_69 rfl ?_
    refine gp_iacv (y := (1)) dX5_leastOf_70 rfl (by decide) (by decide) ?_
    refine gp_goto (t := 75) dX5_leastOf_71 (by decide) ?_
    refine gp_iret dX5_leastOf_75 rfl ?_
    exact ⟨rfl, rfl⟩

set_option maxHeartbeats 400000 in
theorem lo_5_0 (d : Nat) (J : pI) (L : pL) : mm_Call (d + 2) 45 [.int (5), .int (0)] (mm_sh, mm_R, J, L) (some (.int (1))) (mm_sh, mm_R, J, L) := by
  refine cP.call ?_
  refine cP.of_gP (d := d + 1) me_45 ⟨Nat.le_of_ble_eq_true rfl, rfl⟩ ?_
  show gP mm_cs0 _ _ _ _ _ _ [some (.int _), some (.int _)] [] _ _
  refine gp_iload_n dX5_leastOf_0 rfl ?_
  refine gp_ts (t := 55) dX5_leastOf_1 rfl (by decide) ?_
  refine gp_iload_n dX5_leastOf_55 rfl ?_
  refine gp_pu (st' := .int (4) :: _) dX5_leastOf_56 rfl ?_
  refine gp_pu (st' := .int _ :: _) dX5_leastOf_57 rfl ?_
  refine gp_call (kind := 0) (args := [.int _]) (rest := _) dX5_leastOf_58 (Or.inl ⟨rfl, rfl⟩) mk_5_137 (by decide) me_103 rfl rfl rfl rfl rfl rfl (ok_X8_isTerm _ _ _ _) rfl ?_
  refine gp_ifc (t := 74) dX5_leastOf_61 (by decide) c1_eq (fun h1 => ?_) (fun h1 => ?_)
  · exact absurd h1 (by decide)
  · refine gp_gs dX5_leastOf_64 rfl ?_
    refine gp_iload_n dX5_leastOf_67 rfl ?_
    refine gp_pu (st' := .int (4) :: _) dX5_leastOf_68 rfl ?_
    refine gp_pu (st' := .int _ :: _) dX5_leastOf_69 rfl ?_
    refine gp_iacv (y := (1)) dX5_leastOf_70 rfl (by decide) (by decide) ?_
    refine gp_goto (t := 75) dX5_leastOf_71 (by decide) ?_
    refine gp_iret dX5_leastOf_75 rfl ?_
    exact ⟨rfl, rfl⟩

set_option maxHeartbeats 400000 in
theorem lo_6_0 (d : Nat) (J : pI) (L : pL) : mm_Call (d + 2) 45 [.int (6), .int (0)] (mm_sh, mm_R, J, L) (some (.int (0))) (mm_sh, mm_R, J, L) := by
  refine cP.call ?_
  refine cP.of_gP (d := d + 1) me_45 ⟨Nat.le_of_ble_eq_true rfl, rfl⟩ ?_
  show gP mm_cs0 _ _ _ _ _ _ [some (.int _), some (.int _)] [] _ _
  refine gp_iload_n dX5_leastOf_0 rfl ?_
  refine gp_ts (t := 55) dX5_leastOf_1 rfl (by decide) ?_
  refine gp_iload_n dX5_leastOf_55 rfl ?_
  refine gp_pu (st' := .int (4) :: _) dX5_leastOf_56 rfl ?_
  refine gp_pu (st' := .int _ :: _) dX5_leastOf_57 rfl ?_
  refine gp_call (kind := 0) (args := [.int _]) (rest := _) dX5_leastOf_58 (Or.inl ⟨rfl, rfl⟩) mk_5_137 (by decide) me_103 rfl rfl rfl rfl rfl rfl (ok_X8_isTerm _ _ _ _) rfl ?_
  refine gp_ifc (t := 74) dX5_leastOf_61 (by decide) c1_eq (fun h1 => ?_) (fun h1 => ?_)
  · exact absurd h1 (by decide)
  · refine gp_gs dX5_leastOf_64 rfl ?_
    refine gp_iload_n dX5_leastOf_67 rfl ?_
    refine gp_pu (st' := .int (4) :: _) dX5_leastOf_68 rfl ?_
    refine gp_pu (st' := .int _ :: _) dX5_leastOf_69 rfl ?_
    refine gp_iacv (y := (0)) dX5_leastOf_70 rfl (by decide) (by decide) ?_
    refine gp_goto (t := 75) dX5_leastOf_71 (by decide) ?_
    refine gp_iret dX5_leastOf_75 rfl ?_
    exact ⟨rfl, rfl⟩

set_option maxHeartbeats 400000 in
theorem lo_7_0 (d : Nat) (J : pI) (L : pL) : mm_Call (d + 2) 45 [.int (7), .int (0)] (mm_sh, mm_R, J, L) (some (.int (0))) (mm_sh, mm_R, J, L) := by
  refine cP.call ?_
  refine cP.of_gP (d := d + 1) me_45 ⟨Nat.le_of_ble_eq_true rfl, rfl⟩ ?_
  show gP mm_cs0 _ _ _ _ _ _ [some (.int _), some (.int _)] [] _ _
  refine gp_iload_n dX5_leastOf_0 rfl ?_
  refine gp_ts (t := 55) dX5_leastOf_1 rfl (by decide) ?_
  refine gp_iload_n dX5_leastOf_55 rfl ?_
  refine gp_pu (st' := .int (4) :: _) dX5_leastOf_56 rfl ?_
  refine gp_pu (st' := .int _ :: _) dX5_leastOf_57 rfl ?_
  refine gp_call (kind := 0) (args := [.int _]) (rest := _) dX5_leastOf_58 (Or.inl ⟨rfl, rfl⟩) mk_5_137 (by decide) me_103 rfl rfl rfl rfl rfl rfl (ok_X8_isTerm _ _ _ _) rfl ?_
  refine gp_ifc (t := 74) dX5_leastOf_61 (by decide) c1_eq (fun h1 => ?_) (fun h1 => ?_)
  · exact absurd h1 (by decide)
  · refine gp_gs dX5_leastOf_64 rfl ?_
    refine gp_iload_n dX5_leastOf_67 rfl ?_
    refine gp_pu (st' := .int (4) :: _) dX5_leastOf_68 rfl ?_
    refine gp_pu (st' := .int _ :: _) dX5_leastOf_69 rfl ?_
    refine gp_iacv (y := (0)) dX5_leastOf_70 rfl (by decide) (by decide) ?_
    refine gp_goto (t := 75) dX5_leastOf_71 (by decide) ?_
    refine gp_iret dX5_leastOf_75 rfl ?_
    exact ⟨rfl, rfl⟩

theorem ok_leastOf (d : Nat) (J : pI) (L : pL) {w i : Nat} (hw : w < 8) (hi : i < y_cn w) : mm_Call (d + 2) 45 [.int (nI w), .int (nI i)] (mm_sh, mm_R, J, L) (some (.int (y_lo w i))) (mm_sh, mm_R, J, L) := by
  have zqw : w = 0 ∨ w = 1 ∨ w = 2 ∨ w = 3 ∨ w = 4 ∨ w = 5 ∨ w = 6 ∨ w = 7 := by omega
  rcases zqw with rfl | rfl | rfl | rfl | rfl | rfl | rfl | rfl
  · (have zqi : i = 0 ∨ i = 1 ∨ i = 2 := by have : y_cn 0 = 3 := rfl; omega)
    rcases zqi with rfl | rfl | rfl
    · exact lo_0_0 d J L
    · exact lo_0_1 d J L
    · exact lo_0_2 d J L
  · (have zqi : i = 0 ∨ i = 1 := by have : y_cn 1 = 2 := rfl; omega)
    rcases zqi with rfl | rfl
    · exact lo_1_0 d J L
    · exact lo_1_1 d J L
  · (have zqi : i = 0 ∨ i = 1 := by have : y_cn 2 = 2 := rfl; omega)
    rcases zqi with rfl | rfl
    · exact lo_2_0 d J L
    · exact lo_2_1 d J L
  · (have zqi : i = 0 ∨ i = 1 := by have : y_cn 3 = 2 := rfl; omega)
    rcases zqi with rfl | rfl
    · exact lo_3_0 d J L
    · exact lo_3_1 d J L
  · (have zqi : i = 0 := by have : y_cn 4 = 1 := rfl; omega)
    subst zqi
    exact lo_4_0 d J L
  · (have zqi : i = 0 := by have : y_cn 5 = 1 := rfl; omega)
    subst zqi
    exact lo_5_0 d J L
  · (have zqi : i = 0 := by have : y_cn 6 = 1 := rfl; omega)
    subst zqi
    exact lo_6_0 d J L
  · (have zqi : i = 0 := by have : y_cn 7 = 1 := rfl; omega)
    subst zqi
    exact lo_7_0 d J L

set_option maxHeartbeats 400000 in
theorem hi_0_0 (d : Nat) (J : pI) (L : pL) : mm_Call (d + 2) 46 [.ref 21, .int (0), .int (0)] (mm_sh, mm_R, J, L) (some (.int (6))) (mm_sh, mm_R, J, L) := by
  refine cP.call ?_
  refine cP.of_gP (d := d + 1) me_46 ⟨Nat.le_of_ble_eq_true rfl, rfl⟩ ?_
  show gP mm_cs0 _ _ _ _ _ _ [some (.ref _), some (.int _), some (.int _)] [] _ _
  refine gp_iload_n dX5_mostOf_0 rfl ?_
  refine gp_ts (t := 32) dX5_mostOf_1 rfl (by decide) ?_
  refine gp_iload_n dX5_mostOf_32 rfl ?_
  refine gp_ifc (t := 41) dX5_mostOf_33 (by decide) c1_ne (fun h1 => ?_) (fun h1 => ?_)
  · exact absurd h1 (by decide)
  · refine gp_pu (st' := .int (6) :: _) dX5_mostOf_36 rfl ?_
    refine gp_goto (t := 43) dX5_mostOf_38 (by decide) ?_
    refine gp_iret dX5_mostOf_43 rfl ?_
    exact ⟨rfl, rfl⟩

set_option maxHeartbeats 400000 in
theorem hi_0_1 (d : Nat) (J : pI) (L : pL) : mm_Call (d + 2) 46 [.ref 21, .int (0), .int (1)] (mm_sh, mm_R, J, L) (some (.int (9))) (mm_sh, mm_R, J, L) := by
  refine cP.call ?_
  refine cP.of_gP (d := d + 1) me_46 ⟨Nat.le_of_ble_eq_true rfl, rfl⟩ ?_
  show gP mm_cs0 _ _ _ _ _ _ [some (.ref _), some (.int _), some (.int _)] [] _ _
  refine gp_iload_n dX5_mostOf_0 rfl ?_
  refine gp_ts (t := 32) dX5_mostOf_1 rfl (by decide) ?_
  refine gp_iload_n dX5_mostOf_32 rfl ?_
  refine gp_ifc (t := 41) dX5_mostOf_33 (by decide) c1_ne (fun h1 => ?_) (fun h1 => ?_)
  · refine gp_pu (st' := .int (9) :: _) dX5_mostOf_41 rfl ?_
    refine gp_iret dX5_mostOf_43 rfl ?_
    exact ⟨rfl, rfl⟩
  · exact absurd (by decide) h1

set_option maxHeartbeats 400000 in
theorem hi_0_2 (d : Nat) (J : pI) (L : pL) : mm_Call (d + 2) 46 [.ref 21, .int (0), .int (2)] (mm_sh, mm_R, J, L) (some (.int (9))) (mm_sh, mm_R, J, L) := by
  refine cP.call ?_
  refine cP.of_gP (d := d + 1) me_46 ⟨Nat.le_of_ble_eq_true rfl, rfl⟩ ?_
  show gP mm_cs0 _ _ _ _ _ _ [some (.ref _), some (.int _), some (.int _)] [] _ _
  refine gp_iload_n dX5_mostOf_0 rfl ?_
  refine gp_ts (t := 32) dX5_mostOf_1 rfl (by decide) ?_
  refine gp_iload_n dX5_mostOf_32 rfl ?_
  refine gp_ifc (t := 41) dX5_mostOf_33 (by decide) c1_ne (fun h1 => ?_) (fun h1 => ?_)
  · refine gp_pu (st' := .int (9) :: _) dX5_mostOf_41 rfl ?_
    refine gp_iret dX5_mostOf_43 rfl ?_
    exact ⟨rfl, rfl⟩
  · exact absurd (by decide) h1

set_option maxHeartbeats 400000 in
theorem hi_1_0 (d : Nat) (J : pI) (L : pL) : mm_Call (d + 2) 46 [.ref 21, .int (1), .int (0)] (mm_sh, mm_R, J, L) (some (.int (9))) (mm_sh, mm_R, J, L) := by
  refine cP.call ?_
  refine cP.of_gP (d := d + 1) me_46 ⟨Nat.le_of_ble_eq_true rfl, rfl⟩ ?_
  show gP mm_cs0 _ _ _ _ _ _ [some (.ref _), some (.int _), some (.int _)] [] _ _
  refine gp_iload_n dX5_mostOf_0 rfl ?_
  refine gp_ts (t := 44) dX5_mostOf_1 rfl (by decide) ?_
  refine gp_pu (st' := .int (9) :: _) dX5_mostOf_44 rfl ?_
  refine gp_iret dX5_mostOf_46 rfl ?_
  exact ⟨rfl, rfl⟩

set_option maxHeartbeats 400000 in
theorem hi_1_1 (d : Nat) (J : pI) (L : pL) : mm_Call (d + 2) 46 [.ref 21, .int (1), .int (1)] (mm_sh, mm_R, J, L) (some (.int (9))) (mm_sh, mm_R, J, L) := by
  refine cP.call ?_
  refine cP.of_gP (d := d + 1) me_46 ⟨Nat.le_of_ble_eq_true rfl, rfl⟩ ?_
  show gP mm_cs0 _ _ _ _ _ _ [some (.ref _), some (.int _), some (.int _)] [] _ _
  refine gp_iload_n dX5_mostOf_0 rfl ?_
  refine gp_ts (t := 44) dX5_mostOf_1 rfl (by decide) ?_
  refine gp_pu (st' := .int (9) :: _) dX5_mostOf_44 rfl ?_
  refine gp_iret dX5_mostOf_46 rfl ?_
  exact ⟨rfl, rfl⟩

set_option maxHeartbeats 400000 in
theorem hi_2_0 (d : Nat) (J : pI) (L : pL) : mm_Call (d + 2) 46 [.ref 21, .int (2), .int (0)] (mm_sh, mm_R, J, L) (some (.int (J 21 1 - 1))) (mm_sh, mm_R, J, L) := by
  refine cP.call ?_
  refine cP.of_gP (d := d + 1) me_46 ⟨Nat.le_of_ble_eq_true rfl, rfl⟩ ?_
  show gP mm_cs0 _ _ _ _ _ _ [some (.ref _), some (.int _), some (.int _)] [] _ _
  refine gp_iload_n dX5_mostOf_0 rfl ?_
  refine gp_ts (t := 47) dX5_mostOf_1 rfl (by decide) ?_
  refine gp_iload_n dX5_mostOf_47 rfl ?_
  refine gp_ifc (t := 60) dX5_mostOf_48 (by decide) c1_ne (fun h1 => ?_) (fun h1 => ?_)
  · exact absurd h1 (by decide)
  · refine gp_aload_n dX5_mostOf_51 rfl ?_
    refine gp_giv dX5_mostOf_52 mf_5_117 (by decide) (by first | rfl | assumption | (simp only [*]; done)) (by first | exact rfl) ?_
    refine gp_pu (st' := .int (1) :: _) dX5_mostOf_55 rfl ?_
    refine gp_pu (st' := .int _ :: _) dX5_mostOf_56 rfl ?_
    refine gp_goto (t := 66) dX5_mostOf_57 (by decide) ?_
    refine gp_iret dX5_mostOf_66 rfl ?_
    exact ⟨rfl, rfl⟩

set_option maxHeartbeats 400000 in
theorem hi_2_1 (d : Nat) (J : pI) (L : pL) : mm_Call (d + 2) 46 [.ref 21, .int (2), .int (1)] (mm_sh, mm_R, J, L) (some (.int (J 21 3 - 1))) (mm_sh, mm_R, J, L) := by
  refine cP.call ?_
  refine cP.of_gP (d := d + 1) me_46 ⟨Nat.le_of_ble_eq_true rfl, rfl⟩ ?_
  show gP mm_cs0 _ _ _ _ _ _ [some (.ref _), some (.int _), some (.int _)] [] _ _
  refine gp_iload_n dX5_mostOf_0 rfl ?_
  refine gp_ts (t := 47) dX5_mostOf_1 rfl (by decide) ?_
  refine gp_iload_n dX5_mostOf_47 rfl ?_
  refine gp_ifc (t := 60) dX5_mostOf_48 (by decide) c1_ne (fun h1 => ?_) (fun h1 => ?_)
  · refine gp_aload_n dX5_mostOf_60 rfl ?_
    refine gp_giv dX5_mostOf_61 mf_5_120 (by decide) (by first | rfl | assumption | (simp only [*]; done)) (by first | exact rfl) ?_
    refine gp_pu (st' := .int (1) :: _) dX5_mostOf_64 rfl ?_
    refine gp_pu (st' := .int _ :: _) dX5_mostOf_65 rfl ?_
    refine gp_iret dX5_mostOf_66 rfl ?_
    exact ⟨rfl, rfl⟩
  · exact absurd (by decide) h1

set_option maxHeartbeats 400000 in
theorem hi_3_0 (d : Nat) (J : pI) (L : pL) : mm_Call (d + 2) 46 [.ref 21, .int (3), .int (0)] (mm_sh, mm_R, J, L) (some (.int (J 21 1 - 1))) (mm_sh, mm_R, J, L) := by
  refine cP.call ?_
  refine cP.of_gP (d := d + 1) me_46 ⟨Nat.le_of_ble_eq_true rfl, rfl⟩ ?_
  show gP mm_cs0 _ _ _ _ _ _ [some (.ref _), some (.int _), some (.int _)] [] _ _
  refine gp_iload_n dX5_mostOf_0 rfl ?_
  refine gp_ts (t := 67) dX5_mostOf_1 rfl (by decide) ?_
  refine gp_iload_n dX5_mostOf_67 rfl ?_
  refine gp_ifc (t := 80) dX5_mostOf_68 (by decide) c1_ne (fun h1 => ?_) (fun h1 => ?_)
  · exact absurd h1 (by decide)
  · refine gp_aload_n dX5_mostOf_71 rfl ?_
    refine gp_giv dX5_mostOf_72 mf_5_117 (by decide) (by first | rfl | assumption | (simp only [*]; done)) (by first | exact rfl) ?_
    refine gp_pu (st' := .int (1) :: _) dX5_mostOf_75 rfl ?_
    refine gp_pu (st' := .int _ :: _) dX5_mostOf_76 rfl ?_
    refine gp_goto (t := 82) dX5_mostOf_77 (by decide) ?_
    refine gp_iret dX5_mostOf_82 rfl ?_
    exact ⟨rfl, rfl⟩

set_option maxHeartbeats 400000 in
theorem hi_3_1 (d : Nat) (J : pI) (L : pL) : mm_Call (d + 2) 46 [.ref 21, .int (3), .int (1)] (mm_sh, mm_R, J, L) (some (.int (99))) (mm_sh, mm_R, J, L) := by
  refine cP.call ?_
  refine cP.of_gP (d := d + 1) me_46 ⟨Nat.le_of_ble_eq_true rfl, rfl⟩ ?_
  show gP mm_cs0 _ _ _ _ _ _ [some (.ref _), some (.int _), some (.int _)] [] _ _
  refine gp_iload_n dX5_mostOf_0 rfl ?_
  refine gp_ts (t := 67) dX5_mostOf_1 rfl (by decide) ?_
  refine gp_iload_n dX5_mostOf_67 rfl ?_
  refine gp_ifc (t := 80) dX5_mostOf_68 (by decide) c1_ne (fun h1 => ?_) (fun h1 => ?_)
  · refine gp_pu (st' := .int (99) :: _) dX5_mostOf_80 rfl ?_
    refine gp_iret dX5_mostOf_82 rfl ?_
    exact ⟨rfl, rfl⟩
  · exact absurd (by decide) h1

set_option maxHeartbeats 400000 in
theorem hi_4_0 (d : Nat) (J : pI) (L : pL) : mm_Call (d + 2) 46 [.ref 21, .int (4), .int (0)] (mm_sh, mm_R, J, L) (some (.int (200))) (mm_sh, mm_R, J, L) := by
  refine cP.call ?_
  refine cP.of_gP (d := d + 1) me_46 ⟨Nat.le_of_ble_eq_true rfl, rfl⟩ ?_
  show gP mm_cs0 _ _ _ _ _ _ [some (.ref _), some (.int _), some (.int _)] [] _ _
  refine gp_iload_n dX5_mostOf_0 rfl ?_
  refine gp_ts (t := 83) dX5_mostOf_1 rfl (by decide) ?_
  refine gp_iload_n dX5_mostOf_83 rfl ?_
  refine gp_pu (st' := .int (4) :: _) dX5_mostOf_84 rfl ?_
  refine gp_pu (st' := .int _ :: _) dX5_mostOf_85 rfl ?_
  refine gp_call (kind := 0) (args := [.int _]) (rest := _) dX5_mostOf_86 (Or.inl ⟨rfl, rfl⟩) mk_5_137 (by decide) me_103 rfl rfl rfl rfl rfl rfl (ok_X8_isTerm _ _ _ _) rfl ?_
  refine gp_ifc (t := 102) dX5_mostOf_89 (by decide) c1_eq (fun h1 => ?_) (fun h1 => ?_)
  · exact absurd h1 (by decide)
  · refine gp_gs dX5_mostOf_92 rfl ?_
    refine gp_iload_n dX5_mostOf_95 rfl ?_
    refine gp_pu (st' := .int (4) :: _) dX5_mostOf_96 rfl ?_
    refine gp_pu (st' := .int _ :: _) dX5_mostOf_97 rfl ?_
    refine gp_iacv (y := (200)) dX5_mostOf_98 rfl (by decide) (by decide) ?_
    refine gp_goto (t := 103) dX5_mostOf_99 (by decide) ?_
    refine gp_iret dX5_mostOf_103 rfl ?_
    exact ⟨rfl, rfl⟩

set_option maxHeartbeats 400000 in
theorem hi_5_0 (d : Nat) (J : pI) (L : pL) : mm_Call (d + 2) 46 [.ref 21, .int (5), .int (0)] (mm_sh, mm_R, J, L) (some (.int (20))) (mm_sh, mm_R, J, L) := by
  refine cP.call ?_
  refine cP.of_gP (d := d + 1) me_46 ⟨Nat.le_of_ble_eq_true rfl, rfl⟩ ?_
  show gP mm_cs0 _ _ _ _ _ _ [some (.ref _), some (.int _), some (.int _)] [] _ _
  refine gp_iload_n dX5_mostOf_0 rfl ?_
  refine gp_ts (t := 83) dX5_mostOf_1 rfl (by decide) ?_
  refine gp_iload_n dX5_mostOf_83 rfl ?_
  refine gp_pu (st' := .int (4) :: _) dX5_mostOf_84 rfl ?_
  refine gp_pu (st' := .int _ :: _) dX5_mostOf_85 rfl ?_
  refine gp_call (kind := 0) (args := [.int _]) (rest := _) dX5_mostOf_86 (Or.inl ⟨rfl, rfl⟩) mk_5_137 (by decide) me_103 rfl rfl rfl rfl rfl rfl (ok_X8_isTerm _ _ _ _) rfl ?_
  refine gp_ifc (t := 102) dX5_mostOf_89 (by decide) c1_eq (fun h1 => ?_) (fun h1 => ?_)
  · exact absurd h1 (by decide)
  · refine gp_gs dX5_mostOf_92 rfl ?_
    refine gp_iload_n dX5_mostOf_95 rfl ?_
    refine gp_pu (st' := .int (4) :: _) dX5_mostOf_96 rfl ?_
    refine gp_pu (st' := .int _ :: _) dX5_mostOf_97 rfl ?_
    refine gp_iacv (y := (20)) dX5_mostOf_98 rfl (by decide) (by decide) ?_
    refine gp_goto (t := 103) dX5_mostOf_99 (by decide) ?_
    refine gp_iret dX5_mostOf_103 rfl ?_
    exact ⟨rfl, rfl⟩

set_option maxHeartbeats 400000 in
theorem hi_6_0 (d : Nat) (J : pI) (L : pL) : mm_Call (d + 2) 46 [.ref 21, .int (6), .int (0)] (mm_sh, mm_R, J, L) (some (.int (9))) (mm_sh, mm_R, J, L) := by
  refine cP.call ?_
  refine cP.of_gP (d := d + 1) me_46 ⟨Nat.le_of_ble_eq_true rfl, rfl⟩ ?_
  show gP mm_cs0 _ _ _ _ _ _ [some (.ref _), some (.int _), some (.int _)] [] _ _
  refine gp_iload_n dX5_mostOf_0 rfl ?_
  refine gp_ts (t := 83) dX5_mostOf_1 rfl (by decide) ?_
  refine gp_iload_n dX5_mostOf_83 rfl ?_
  refine gp_pu (st' := .int (4) :: _) dX5_mostOf_84 rfl ?_
  refine gp_pu (st' := .int _ :: _) dX5_mostOf_85 rfl ?_
  refine gp_call (kind := 0) (args := [.int _]) (rest := _) dX5_mostOf_86 (Or.inl ⟨rfl, rfl⟩) mk_5_137 (by decide) me_103 rfl rfl rfl rfl rfl rfl (ok_X8_isTerm _ _ _ _) rfl ?_
  refine gp_ifc (t := 102) dX5_mostOf_89 (by decide) c1_eq (fun h1 => ?_) (fun h1 => ?_)
  · exact absurd h1 (by decide)
  · refine gp_gs dX5_mostOf_92 rfl ?_
    refine gp_iload_n dX5_mostOf_95 rfl ?_
    refine gp_pu (st' := .int (4) :: _) dX5_mostOf_96 rfl ?_
    refine gp_pu (st' := .int _ :: _) dX5_mostOf_97 rfl ?_
    refine gp_iacv (y := (9)) dX5_mostOf_98 rfl (by decide) (by decide) ?_
    refine gp_goto (t := 103) dX5_mostOf_99 (by decide) ?_
    refine gp_iret dX5_mostOf_103 rfl ?_
    exact ⟨rfl, rfl⟩

set_option maxHeartbeats 400000 in
theorem hi_7_0 (d : Nat) (J : pI) (L : pL) : mm_Call (d + 2) 46 [.ref 21, .int (7), .int (0)] (mm_sh, mm_R, J, L) (some (.int (60))) (mm_sh, mm_R, J, L) := by
  refine cP.call ?_
  refine cP.of_gP (d := d + 1) me_46 ⟨Nat.le_of_ble_eq_true rfl, rfl⟩ ?_
  show gP mm_cs0 _ _ _ _ _ _ [some (.ref _), some (.int _), some (.int _)] [] _ _
  refine gp_iload_n dX5_mostOf_0 rfl ?_
  refine gp_ts (t := 83) dX5_mostOf_1 rfl (by decide) ?_
  refine gp_iload_n dX5_mostOf_83 rfl ?_
  refine gp_pu (st' := .int (4) :: _) dX5_mostOf_84 rfl ?_
  refine gp_pu (st' := .int _ :: _) dX5_mostOf_85 rfl ?_
  refine gp_call (kind := 0) (args := [.int _]) (rest := _) dX5_mostOf_86 (Or.inl ⟨rfl, rfl⟩) mk_5_137 (by decide) me_103 rfl rfl rfl rfl rfl rfl (ok_X8_isTerm _ _ _ _) rfl ?_
  refine gp_ifc (t := 102) dX5_mostOf_89 (by decide) c1_eq (fun h1 => ?_) (fun h1 => ?_)
  · exact absurd h1 (by decide)
  · refine gp_gs dX5_mostOf_92 rfl ?_
    refine gp_iload_n dX5_mostOf_95 rfl ?_
    refine gp_pu (st' := .int (4) :: _) dX5_mostOf_96 rfl ?_
    refine gp_pu (st' := .int _ :: _) dX5_mostOf_97 rfl ?_
    refine gp_iacv (y := (60)) dX5_mostOf_98 rfl (by decide) (by decide) ?_
    refine gp_goto (t := 103) dX5_mostOf_99 (by decide) ?_
    refine gp_iret dX5_mostOf_103 rfl ?_
    exact ⟨rfl, rfl⟩

theorem ok_mostOf (d : Nat) (L : pL) {V : pI} (h1 : J 21 1 = V 108 0) (h3 : J 21 3 = V 108 1) {w i : Nat} (hw : w < 8) (hi : i < y_cn w) : mm_Call (d + 2) 46 [.ref 21, .int (nI w), .int (nI i)] (mm_sh, mm_R, J, L) (some (.int (y_hi V w i))) (mm_sh, mm_R, J, L) := by
  have zqw : w = 0 ∨ w = 1 ∨ w = 2 ∨ w = 3 ∨ w = 4 ∨ w = 5 ∨ w = 6 ∨ w = 7 := by omega
  rcases zqw with rfl | rfl | rfl | rfl | rfl | rfl | rfl | rfl
  · (have zqi : i = 0 ∨ i = 1 ∨ i = 2 := by have : y_cn 0 = 3 := rfl; omega)
    rcases zqi with rfl | rfl | rfl
    · first | exact hi_0_0 d J L | (have e := hi_0_0 d J L; rw [h1] at e; exact e) | (have e := hi_0_0 d J L; rw [h3] at e; exact e)
    · first | exact hi_0_1 d J L | (have e := hi_0_1 d J L; rw [h1] at e; exact e) | (have e := hi_0_1 d J L; rw [h3] at e; exact e)
    · first | exact hi_0_2 d J L | (have e := hi_0_2 d J L; rw [h1] at e; exact e) | (have e := hi_0_2 d J L; rw [h3] at e; exact e)
  · (have zqi : i = 0 ∨ i = 1 := by have : y_cn 1 = 2 := rfl; omega)
    rcases zqi with rfl | rfl
    · first | exact hi_1_0 d J L | (have e := hi_1_0 d J L; rw [h1] at e; exact e) | (have e := hi_1_0 d J L; rw [h3] at e; exact e)
    · first | exact hi_1_1 d J L | (have e := hi_1_1 d J L; rw [h1] at e; exact e) | (have e := hi_1_1 d J L; rw [h3] at e; exact e)
  · (have zqi : i = 0 ∨ i = 1 := by have : y_cn 2 = 2 := rfl; omega)
    rcases zqi with rfl | rfl
    · first | exact hi_2_0 d J L | (have e := hi_2_0 d J L; rw [h1] at e; exact e) | (have e := hi_2_0 d J L; rw [h3] at e; exact e)
    · first | exact hi_2_1 d J L | (have e := hi_2_1 d J L; rw [h1] at e; exact e) | (have e := hi_2_1 d J L; rw [h3] at e; exact e)
  · (have zqi : i = 0 ∨ i = 1 := by have : y_cn 3 = 2 := rfl; omega)
    rcases zqi with rfl | rfl
    · first | exact hi_3_0 d J L | (have e := hi_3_0 d J L; rw [h1] at e; exact e) | (have e := hi_3_0 d J L; rw [h3] at e; exact e)
    · first | exact hi_3_1 d J L | (have e := hi_3_1 d J L; rw [h1] at e; exact e) | (have e := hi_3_1 d J L; rw [h3] at e; exact e)
  · (have zqi : i = 0 := by have : y_cn 4 = 1 := rfl; omega)
    subst zqi
    first | exact hi_4_0 d J L | (have e := hi_4_0 d J L; rw [h1] at e; exact e) | (have e := hi_4_0 d J L; rw [h3] at e; exact e)
  · (have zqi : i = 0 := by have : y_cn 5 = 1 := rfl; omega)
    subst zqi
    first | exact hi_5_0 d J L | (have e := hi_5_0 d J L; rw [h1] at e; exact e) | (have e := hi_5_0 d J L; rw [h3] at e; exact e)
  · (have zqi : i = 0 := by have : y_cn 6 = 1 := rfl; omega)
    subst zqi
    first | exact hi_6_0 d J L | (have e := hi_6_0 d J L; rw [h1] at e; exact e) | (have e := hi_6_0 d J L; rw [h3] at e; exact e)
  · (have zqi : i = 0 := by have : y_cn 7 = 1 := rfl; omega)
    subst zqi
    first | exact hi_7_0 d J L | (have e := hi_7_0 d J L; rw [h1] at e; exact e) | (have e := hi_7_0 d J L; rw [h3] at e; exact e)

def y_hr (V : pI) (w : Nat) : Int32 := if (w = 0 ∧ V 108 0 = 8) ∨ (w = 1 ∧ V 108 1 = 8) then 0 else 1

set_option maxHeartbeats 400000 in
theorem hr_0 (d : Nat) (J : pI) (L : pL) : mm_Call (d + 1) 42 [.ref 21, .int (0)] (mm_sh, mm_R, J, L) (some (.int (if 8 ≤ J 21 1 then 0 else 1))) (mm_sh, mm_R, J, L) := by
  refine cP.call ?_
  refine cP.of_gP (d := d + 0) me_42 ⟨Nat.le_of_ble_eq_true rfl, rfl⟩ ?_
  show gP mm_cs0 _ _ _ _ _ _ [some (.ref _), some (.int _)] [] _ _
  refine gp_iload_n dX5_hasRoom_0 rfl ?_
  refine gp_ls (t := 28) dX5_hasRoom_1 (by decide) rfl ?_
  refine gp_aload_n dX5_hasRoom_28 rfl ?_
  refine gp_giv dX5_hasRoom_29 mf_5_117 (by decide) (by first | rfl | assumption | (simp only [*]; done)) (by first | exact rfl) ?_
  refine gp_pu (st' := .int (8) :: _) dX5_hasRoom_32 rfl ?_
  refine gp_icc (t := 41) dX5_hasRoom_34 (by decide) c2_ge (fun h1 => ?_) (fun h1 => ?_)
  · have h1' := Int32.not_lt.mpr h1
    refine gp_pu (st' := .int (0) :: _) dX5_hasRoom_41 rfl ?_
    refine gp_zret dX5_hasRoom_42 rfl (by first | exact Or.inl rfl | exact Or.inr rfl | assumption) ?_
    first | exact ⟨rfl, rfl⟩ | exact ⟨by rw [if_pos h1], rfl⟩ | exact ⟨by rw [if_neg h1], rfl⟩
  · have h1' := Int32.not_le.mp h1
    refine gp_pu (st' := .int (1) :: _) dX5_hasRoom_37 rfl ?_
    refine gp_goto (t := 42) dX5_hasRoom_38 (by decide) ?_
    refine gp_zret dX5_hasRoom_42 rfl (by first | exact Or.inl rfl | exact Or.inr rfl | assumption) ?_
    first | exact ⟨rfl, rfl⟩ | exact ⟨by rw [if_pos h1], rfl⟩ | exact ⟨by rw [if_neg h1], rfl⟩

set_option maxHeartbeats 400000 in
theorem hr_1 (d : Nat) (J : pI) (L : pL) : mm_Call (d + 1) 42 [.ref 21, .int (1)] (mm_sh, mm_R, J, L) (some (.int (if 8 ≤ J 21 3 then 0 else 1))) (mm_sh, mm_R, J, L) := by
  refine cP.call ?_
  refine cP.of_gP (d := d + 0) me_42 ⟨Nat.le_of_ble_eq_true rfl, rfl⟩ ?_
  show gP mm_cs0 _ _ _ _ _ _ [some (.ref _), some (.int _)] [] _ _
  refine gp_iload_n dX5_hasRoom_0 rfl ?_
  refine gp_ls (t := 43) dX5_hasRoom_1 (by decide) rfl ?_
  refine gp_aload_n dX5_hasRoom_43 rfl ?_
  refine gp_giv dX5_hasRoom_44 mf_5_120 (by decide) (by first | rfl | assumption | (simp only [*]; done)) (by first | exact rfl) ?_
  refine gp_pu (st' := .int (8) :: _) dX5_hasRoom_47 rfl ?_
  refine gp_icc (t := 56) dX5_hasRoom_49 (by decide) c2_ge (fun h1 => ?_) (fun h1 => ?_)
  · have h1' := Int32.not_lt.mpr h1
    refine gp_pu (st' := .int (0) :: _) dX5_hasRoom_56 rfl ?_
    refine gp_zret dX5_hasRoom_57 rfl (by first | exact Or.inl rfl | exact Or.inr rfl | assumption) ?_
    first | exact ⟨rfl, rfl⟩ | exact ⟨by rw [if_pos h1], rfl⟩ | exact ⟨by rw [if_neg h1], rfl⟩
  · have h1' := Int32.not_le.mp h1
    refine gp_pu (st' := .int (1) :: _) dX5_hasRoom_52 rfl ?_
    refine gp_goto (t := 57) dX5_hasRoom_53 (by decide) ?_
    refine gp_zret dX5_hasRoom_57 rfl (by first | exact Or.inl rfl | exact Or.inr rfl | assumption) ?_
    first | exact ⟨rfl, rfl⟩ | exact ⟨by rw [if_pos h1], rfl⟩ | exact ⟨by rw [if_neg h1], rfl⟩

set_option maxHeartbeats 400000 in
theorem hr_2 (d : Nat) (J : pI) (L : pL) : mm_Call (d + 1) 42 [.ref 21, .int (2)] (mm_sh, mm_R, J, L) (some (.int (1))) (mm_sh, mm_R, J, L) := by
  refine cP.call ?_
  refine cP.of_gP (d := d + 0) me_42 ⟨Nat.le_of_ble_eq_true rfl, rfl⟩ ?_
  show gP mm_cs0 _ _ _ _ _ _ [some (.ref _), some (.int _)] [] _ _
  refine gp_iload_n dX5_hasRoom_0 rfl ?_
  refine gp_ls (t := 58) dX5_hasRoom_1 (by decide) rfl ?_
  refine gp_pu (st' := .int (1) :: _) dX5_hasRoom_58 rfl ?_
  refine gp_zret dX5_hasRoom_59 rfl (by first | exact Or.inl rfl | exact Or.inr rfl | assumption) ?_
  first | exact ⟨rfl, rfl⟩ | exact ⟨by rw [if_pos h1], rfl⟩ | exact ⟨by rw [if_neg h1], rfl⟩

set_option maxHeartbeats 400000 in
theorem hr_3 (d : Nat) (J : pI) (L : pL) : mm_Call (d + 1) 42 [.ref 21, .int (3)] (mm_sh, mm_R, J, L) (some (.int (1))) (mm_sh, mm_R, J, L) := by
  refine cP.call ?_
  refine cP.of_gP (d := d + 0) me_42 ⟨Nat.le_of_ble_eq_true rfl, rfl⟩ ?_
  show gP mm_cs0 _ _ _ _ _ _ [some (.ref _), some (.int _)] [] _ _
  refine gp_iload_n dX5_hasRoom_0 rfl ?_
  refine gp_ls (t := 58) dX5_hasRoom_1 (by decide) rfl ?_
  refine gp_pu (st' := .int (1) :: _) dX5_hasRoom_58 rfl ?_
  refine gp_zret dX5_hasRoom_59 rfl (by first | exact Or.inl rfl | exact Or.inr rfl | assumption) ?_
  first | exact ⟨rfl, rfl⟩ | exact ⟨by rw [if_pos h1], rfl⟩ | exact ⟨by rw [if_neg h1], rfl⟩

set_option maxHeartbeats 400000 in
theorem hr_4 (d : Nat) (J : pI) (L : pL) : mm_Call (d + 1) 42 [.ref 21, .int (4)] (mm_sh, mm_R, J, L) (some (.int (1))) (mm_sh, mm_R, J, L) := by
  refine cP.call ?_
  refine cP.of_gP (d := d + 0) me_42 ⟨Nat.le_of_ble_eq_true rfl, rfl⟩ ?_
  show gP mm_cs0 _ _ _ _ _ _ [some (.ref _), some (.int _)] [] _ _
  refine gp_iload_n dX5_hasRoom_0 rfl ?_
  refine gp_ls (t := 58) dX5_hasRoom_1 (by decide) rfl ?_
  refine gp_pu (st' := .int (1) :: _) dX5_hasRoom_58 rfl ?_
  refine gp_zret dX5_hasRoom_59 rfl (by first | exact Or.inl rfl | exact Or.inr rfl | assumption) ?_
  first | exact ⟨rfl, rfl⟩ | exact ⟨by rw [if_pos h1], rfl⟩ | exact ⟨by rw [if_neg h1], rfl⟩

set_option maxHeartbeats 400000 in
theorem hr_5 (d : Nat) (J : pI) (L : pL) : mm_Call (d + 1) 42 [.ref 21, .int (5)] (mm_sh, mm_R, J, L) (some (.int (1))) (mm_sh, mm_R, J, L) := by
  refine cP.call ?_
  refine cP.of_gP (d := d + 0) me_42 ⟨Nat.le_of_ble_eq_true rfl, rfl⟩ ?_
  show gP mm_cs0 _ _ _ _ _ _ [some (.ref _), some (.int _)] [] _ _
  refine gp_iload_n dX5_hasRoom_0 rfl ?_
  refine gp_ls (t := 58) dX5_hasRoom_1 (by decide) rfl ?_
  refine gp_pu (st' := .int (1) :: _) dX5_hasRoom_58 rfl ?_
  refine gp_zret dX5_hasRoom_59 rfl (by first | exact Or.inl rfl | exact Or.inr rfl | assumption) ?_
  first | exact ⟨rfl, rfl⟩ | exact ⟨by rw [if_pos h1], rfl⟩ | exact ⟨by rw [if_neg h1], rfl⟩

set_option maxHeartbeats 400000 in
theorem hr_6 (d : Nat) (J : pI) (L : pL) : mm_Call (d + 1) 42 [.ref 21, .int (6)] (mm_sh, mm_R, J, L) (some (.int (1))) (mm_sh, mm_R, J, L) := by
  refine cP.call ?_
  refine cP.of_gP (d := d + 0) me_42 ⟨Nat.le_of_ble_eq_true rfl, rfl⟩ ?_
  show gP mm_cs0 _ _ _ _ _ _ [some (.ref _), some (.int _)] [] _ _
  refine gp_iload_n dX5_hasRoom_0 rfl ?_
  refine gp_ls (t := 58) dX5_hasRoom_1 (by decide) rfl ?_
  refine gp_pu (st' := .int (1) :: _) dX5_hasRoom_58 rfl ?_
  refine gp_zret dX5_hasRoom_59 rfl (by first | exact Or.inl rfl | exact Or.inr rfl | assumption) ?_
  first | exact ⟨rfl, rfl⟩ | exact ⟨by rw [if_pos h1], rfl⟩ | exact ⟨by rw [if_neg h1], rfl⟩

set_option maxHeartbeats 400000 in
theorem hr_7 (d : Nat) (J : pI) (L : pL) : mm_Call (d + 1) 42 [.ref 21, .int (7)] (mm_sh, mm_R, J, L) (some (.int (1))) (mm_sh, mm_R, J, L) := by
  refine cP.call ?_
  refine cP.of_gP (d := d + 0) me_42 ⟨Nat.le_of_ble_eq_true rfl, rfl⟩ ?_
  show gP mm_cs0 _ _ _ _ _ _ [some (.ref _), some (.int _)] [] _ _
  refine gp_iload_n dX5_hasRoom_0 rfl ?_
  refine gp_ls (t := 58) dX5_hasRoom_1 (by decide) rfl ?_
  refine gp_pu (st' := .int (1) :: _) dX5_hasRoom_58 rfl ?_
  refine gp_zret dX5_hasRoom_59 rfl (by first | exact Or.inl rfl | exact Or.inr rfl | assumption) ?_
  first | exact ⟨rfl, rfl⟩ | exact ⟨by rw [if_pos h1], rfl⟩ | exact ⟨by rw [if_neg h1], rfl⟩

theorem nI_8e {n : Nat} (h : n ≤ 8) : 8 ≤ nI n ↔ nI n = 8 := by
  rw [ti_le, ti_eq, ti_nI (by omega), show (8 : Int32).toInt = 8 by decide]
  omega
theorem ok_hasRoom (d : Nat) (L : pL) {V : pI} (v : vN V N S) (h1 : J 21 1 = V 108 0) (h3 : J 21 3 = V 108 1) {w : Nat} (hw : w < 8) : mm_Call (d + 1) 42 [.ref 21, .int (nI w)] (mm_sh, mm_R, J, L) (some (.int (y_hr V w))) (mm_sh, mm_R, J, L) := by
  have zqw : w = 0 ∨ w = 1 ∨ w = 2 ∨ w = 3 ∨ w = 4 ∨ w = 5 ∨ w = 6 ∨ w = 7 := by omega
  rcases zqw with rfl | rfl | rfl | rfl | rfl | rfl | rfl | rfl
  · have e := hr_0 d J L
    rw [h1, v.2.2.1] at e
    have e2 : y_hr V 0 = if 8 ≤ nI N then 0 else 1 := by
      unfold y_hr
      rw [v.2.2.1]
      by_cases q : nI N = 8
      · rw [if_pos (Or.inl ⟨rfl, q⟩), if_pos ((nI_8e v.1).mpr q)]
      · rw [if_neg (by rintro (⟨-, y⟩ | ⟨y, -⟩); exact q y; exact absurd y (by decide)), if_neg (fun y => q ((nI_8e v.1).mp y))]
    rw [e2]
    exact e
  · have e := hr_1 d J L
    rw [h3, v.2.2.2.1] at e
    have e2 : y_hr V 1 = if 8 ≤ nI S then 0 else 1 := by
      unfold y_hr
      rw [v.2.2.2.1]
      by_cases q : nI S = 8
      · rw [if_pos (Or.inr ⟨rfl, q⟩), if_pos ((nI_8e v.2.1).mpr q)]
      · rw [if_neg (by rintro (⟨y, -⟩ | ⟨-, y⟩); exact absurd y (by decide); exact q y), if_neg (fun y => q ((nI_8e v.2.1).mp y))]
    rw [e2]
    exact e
  · exact hr_2 d J L
  · exact hr_3 d J L
  · exact hr_4 d J L
  · exact hr_5 d J L
  · exact hr_6 d J L
  · exact hr_7 d J L

set_option maxHeartbeats 400000 in
theorem ok_isDigit (d : Nat) (M : mm_M) (x : Int32) : mm_Call (d + 1) 41 [.int x] M (some (.int (bi (48 ≤ x ∧ x ≤ 57)))) M := by
  refine cP.call ?_
  refine cP.of_gP (d := d + 0) me_41 ⟨Nat.le_of_ble_eq_true rfl, rfl⟩ ?_
  show gP mm_cs0 _ _ _ _ _ _ [some (.int _)] [] _ _
  refine gp_iload_n dX5_isDigit_0 rfl ?_
  refine gp_pu (st' := .int (48) :: _) dX5_isDigit_1 rfl ?_
  refine gp_icc (t := 16) dX5_isDigit_3 (by decide) c2_lt (fun h1 => ?_) (fun h1 => ?_)
  · have h1' := Int32.not_le.mpr h1
    refine gp_pu (st' := .int (0) :: _) dX5_isDigit_16 rfl ?_
    refine gp_zret dX5_isDigit_17 rfl (by first | exact Or.inl rfl | exact Or.inr rfl | assumption) ?_
    first | exact ⟨by rw [bi_t ⟨by assumption, by assumption⟩], rfl⟩ | exact ⟨by rw [bi_f (by rintro ⟨q1, q2⟩; contradiction)], rfl⟩
  · have h1' := Int32.not_lt.mp h1
    refine gp_iload_n dX5_isDigit_6 rfl ?_
    refine gp_pu (st' := .int (57) :: _) dX5_isDigit_7 rfl ?_
    refine gp_icc (t := 16) dX5_isDigit_9 (by decide) c2_gt (fun h2 => ?_) (fun h2 => ?_)
    · have h2' := Int32.not_le.mpr h2
      refine gp_pu (st' := .int (0) :: _) dX5_isDigit_16 rfl ?_
      refine gp_zret dX5_isDigit_17 rfl (by first | exact Or.inl rfl | exact Or.inr rfl | assumption) ?_
      first | exact ⟨by rw [bi_t ⟨by assumption, by assumption⟩], rfl⟩ | exact ⟨by rw [bi_f (by rintro ⟨q1, q2⟩; contradiction)], rfl⟩
    · have h2' := Int32.not_lt.mp h2
      refine gp_pu (st' := .int (1) :: _) dX5_isDigit_12 rfl ?_
      refine gp_goto (t := 17) dX5_isDigit_13 (by decide) ?_
      refine gp_zret dX5_isDigit_17 rfl (by first | exact Or.inl rfl | exact Or.inr rfl | assumption) ?_
      first | exact ⟨by rw [bi_t ⟨by assumption, by assumption⟩], rfl⟩ | exact ⟨by rw [bi_f (by rintro ⟨q1, q2⟩; contradiction)], rfl⟩

set_option maxHeartbeats 400000 in
theorem lp_lk (d : Nat) (htx : txC z t E L J) {w p : Nat} (hw : w < 8) (hp : J 65 1 = nI p) (hp2 : p ≤ 1000) : ∀ (n i : Nat), i + n = (mm_sy w).length → i ≤ y_lk t (mm_sy w) p → gP mm_cs0 (d + 4) 5 false (some .int) cX5_lettersAlike 2 [some (.ref 65), some (.ref z), some (.ref (1100 + w)), some (.int (nI i))] [] (mm_sh, mm_R, J, L) (pX (some (.int (nI (y_lk t (mm_sy w) p)))) L (fun K => K = J)) := by
  intro n
  induction n with
  | zero =>
    intro i  hi hl
    obtain rfl : i = (mm_sy w).length := by omega
    have h5 := (sy_len w hw).2
    have hc1 : nI (mm_sy w).length ≤ nI (mm_sy w).length := Int32.le_refl _
    refine gp_iload_n dX5_lettersAlike_2 rfl ?_
    refine gp_aload_n dX5_lettersAlike_3 rfl ?_
    refine gp_bi (kind := 1) (args := [.ref _]) (rest := _) dX5_lettersAlike_4 (Or.inr (Or.inl ⟨rfl, rfl⟩)) mk_5_47 (by decide) rfl rfl rfl rfl (bi_len (by omega) hw) rfl ?_
    refine gp_icc (t := 34) dX5_lettersAlike_7 (by decide) c2_ge (fun h1 => ?_) (fun h1 => ?_)
    · have h1' := Int32.not_lt.mpr h1
      refine gp_iload_n dX5_lettersAlike_34 rfl ?_
      refine gp_iret dX5_lettersAlike_35 rfl ?_
      exact pX.mk (by rw [y_lk_f hl (Nat.lt_irrefl _)]) rfl
    · exact absurd hc1 h1
  | succ n ih =>
    intro i  hi hl
    have h5 := (sy_len w hw).2
    have hc1 : ¬ nI (mm_sy w).length ≤ nI i := nI_ge (by omega) (by omega)
    have hzi : isSh z := htx.1
    refine gp_iload_n dX5_lettersAlike_2 rfl ?_
    refine gp_aload_n dX5_lettersAlike_3 rfl ?_
    refine gp_bi (kind := 1) (args := [.ref _]) (rest := _) dX5_lettersAlike_4 (Or.inr (Or.inl ⟨rfl, rfl⟩)) mk_5_47 (by decide) rfl rfl rfl rfl (bi_len (by omega) hw) rfl ?_
    refine gp_icc (t := 34) dX5_lettersAlike_7 (by decide) c2_ge (fun h1 => ?_) (fun h1 => ?_)
    · exact absurd h1 hc1
    · have h1' := Int32.not_le.mp h1
      (try simp only [Classical.not_not] at h1)
      refine gp_aload_n dX5_lettersAlike_10 rfl ?_
      refine gp_aload_n dX5_lettersAlike_11 rfl ?_
      refine gp_giv dX5_lettersAlike_12 mf_5_19 (by decide) (by first | rfl | assumption | (simp only [*]; done)) (by first | exact hp | exact rfl) ?_
      refine gp_iload_n dX5_lettersAlike_15 rfl ?_
      refine gp_pu (st' := .int _ :: _) dX5_lettersAlike_16 rfl ?_
      refine gp_call (kind := 1) (args := [.ref _, .int _]) (rest := _) dX5_lettersAlike_17 (Or.inr (Or.inl ⟨rfl, rfl⟩)) mk_5_31 (by decide) me_58 rfl rfl rfl rfl rfl (mm_rc_of htx.1.1) (ok_asT _ htx (nI_add _ _) (by omega)) rfl ?_
      refine gp_aload_n dX5_lettersAlike_20 rfl ?_
      refine gp_iload_n dX5_lettersAlike_21 rfl ?_
      refine gp_bi (kind := 1) (args := [.ref _, .int _]) (rest := _) dX5_lettersAlike_22 (Or.inr (Or.inl ⟨rfl, rfl⟩)) mk_5_81 (by decide) rfl rfl rfl rfl (bi_chr (by omega) hw (by omega)) rfl ?_
      refine gp_icc (t := 34) dX5_lettersAlike_25 (by decide) c2_ne (fun h2 => ?_) (fun h2 => ?_)
      · (try simp only [Classical.not_not] at h2)
        refine gp_iload_n dX5_lettersAlike_34 rfl ?_
        refine gp_iret dX5_lettersAlike_35 rfl ?_
        exact pX.mk (by rw [y_lk_e hl h2]) rfl
      · (try simp only [Classical.not_not] at h2)
        refine gp_iinc (v := (1)) (ls' := [some (.ref _), some (.ref _), some (.ref _), some (.int _)]) dX5_lettersAlike_28 rfl (by decide) rfl ?_
        refine gp_goto (t := 2) dX5_lettersAlike_31 (by decide) ?_
        (rw [nI_1]; exact ih (i + 1) (by omega) (y_lk_s _ _ _ hl (by omega) h2))

set_option maxHeartbeats 400000 in
theorem ct_lk (d : Nat) (htx : txC z t E L J) {w p : Nat} (hw : w < 8) (hp : J 65 1 = nI p) (hp2 : p ≤ 1000) : cP (d + 5) 38 [.ref 65, .ref z, .ref (1100 + w)] (mm_sh, mm_R, J, L) (pX (some (.int (nI (y_lk t (mm_sy w) p)))) L (fun K => K = J)) := by
  refine cP.of_gP (d := d + 4) me_38 ⟨Nat.le_of_ble_eq_true rfl, rfl⟩ ?_
  show gP mm_cs0 _ _ _ _ _ _ [some (.ref _), some (.ref _), some (.ref _), none] [] _ _
  refine gp_pu (st' := .int (0) :: _) dX5_lettersAlike_0 rfl ?_
  refine gp_istore_n (ls' := [some (.ref _), some (.ref _), some (.ref _), some (.int _)]) dX5_lettersAlike_1 rfl (Nat.le_of_ble_eq_true rfl) ?_
  exact lp_lk d htx hw hp hp2 _ 0 (Nat.zero_add _) (Nat.zero_le _)

def y_wa (t : Nat → Int32) (p : Nat) : Int32 := if y_wd t p = 8 then -1 else nI (y_wd t p)
def y_wm (t : Nat → Int32) (p : Nat) (J : pI) : pI := if y_wd t p = 8 then mm_u J 65 2 (nI (p + y_mx t p 8)) else J
theorem y_wa_w {p w : Nat} (h : y_W t p w) (hw : w < 8) (J : pI) : y_wa t p = nI w ∧ y_wm t p J = J := by
  unfold y_wa y_wm
  rw [y_wd_w h hw, if_neg (by omega), if_neg (by omega)]
  exact ⟨rfl, rfl⟩
theorem y_wa_n {p : Nat} (h : ∀ w, w < 8 → ¬ y_W t p w) (J : pI) : y_wa t p = -1 ∧ y_wm t p J = mm_u J 65 2 (nI (p + y_mx t p 8)) := by
  unfold y_wa y_wm
  rw [y_wd_n h, if_pos rfl, if_pos rfl]
  exact ⟨rfl, rfl⟩
theorem max_nI {a b : Nat} (ha : a ≤ 2000) (hb : b ≤ 2000) : (if nI a < nI b then nI b else nI a) = nI (max a b) := by
  by_cases h : a < b
  · rw [if_pos (nI_lt h (by omega)), Nat.max_eq_right (by omega)]
  · rw [if_neg (nI_nlt (by omega) (by omega)), Nat.max_eq_left (by omega)]

set_option maxHeartbeats 400000 in
theorem lp_rw (d : Nat) (htx : txC z t E L J) {p : Nat} (hp : J 65 1 = nI p) (hp2 : p ≤ 1000) : ∀ (n i : Nat) (v4 : Option Value), i + n = 8 → (∀ w, w < i → ¬ y_W t p w) → gP mm_cs0 (d + 5) 5 false (some .int) cX5_readWord 4 [some (.ref 65), some (.ref z), some (.int (nI (y_mx t p i))), some (.int (nI i)), v4] [] (mm_sh, mm_R, J, L) (pX (some (.int (y_wa t p))) L (fun K => K = y_wm t p J)) := by
  intro n
  induction n with
  | zero =>
    intro i v4 hi hn
    obtain rfl : i = 8 := by omega
    have hc1 : (8 : Int32) ≤ nI 8 := by decide
    refine gp_iload_n dX5_readWord_4 rfl ?_
    refine gp_pu (st' := .int (8) :: _) dX5_readWord_5 rfl ?_
    refine gp_icc (t := 48) dX5_readWord_7 (by decide) c2_ge (fun h1 => ?_) (fun h1 => ?_)
    · have h1' := Int32.not_lt.mpr h1
      refine gp_aload_n dX5_readWord_48 rfl ?_
      refine gp_aload_n dX5_readWord_49 rfl ?_
      refine gp_giv dX5_readWord_50 mf_5_19 (by decide) (by first | rfl | assumption | (simp only [*]; done)) (by first | exact hp | exact rfl) ?_
      refine gp_iload_n dX5_readWord_53 rfl ?_
      refine gp_pu (st' := .int _ :: _) dX5_readWord_54 rfl ?_
      refine gp_pi dX5_readWord_55 mf_5_15 rfl rfl (by first | rfl | assumption | (simp only [*]; done)) ?_
      refine gp_pu (st' := .int (-1) :: _) dX5_readWord_58 rfl ?_
      refine gp_iret dX5_readWord_59 rfl ?_
      (have e := y_wa_n hn J; exact pX.mk (by rw [e.1]) (by rw [e.2, nI_add]))
    · exact absurd hc1 h1
  | succ n ih =>
    intro i v4 hi hn
    have hc1 : ¬ (8 : Int32) ≤ nI i := nI_ge (b := 8) (by omega) (by omega)
    have h5 := (sy_len i (by omega)).2
    have h6 := y_lk_le (t := t) (mm_sy i) p
    have hzi : isSh z := htx.1
    refine gp_iload_n dX5_readWord_4 rfl ?_
    refine gp_pu (st' := .int (8) :: _) dX5_readWord_5 rfl ?_
    refine gp_icc (t := 48) dX5_readWord_7 (by decide) c2_ge (fun h1 => ?_) (fun h1 => ?_)
    · exact absurd h1 hc1
    · have h1' := Int32.not_le.mp h1
      (try simp only [Classical.not_not] at h1)
      refine gp_aload_n dX5_readWord_10 rfl ?_
      refine gp_aload_n dX5_readWord_11 rfl ?_
      refine gp_iload_n dX5_readWord_12 rfl ?_
      refine gp_call (kind := 0) (args := [.int _]) (rest := _) dX5_readWord_13 (Or.inl ⟨rfl, rfl⟩) mk_5_43 (by decide) me_43 rfl rfl rfl rfl rfl rfl (ok_wordOf _ _ (by omega)) rfl ?_
      refine gp_callX (kind := 1) (args := [.ref _, .ref _, .ref _]) (rest := _) dX5_readWord_16 (Or.inr (Or.inl ⟨rfl, rfl⟩)) mk_5_72 (by decide) me_38 rfl rfl rfl rfl rfl (mm_rc_of (by first | rfl | assumption | (simp only [*]; done))) (ct_lk d htx (by omega) hp hp2) ?_
      intro K1 zqk1
      rw [zqk1]
      refine gp_istore (ls' := [some (.ref _), some (.ref _), some (.int _), some (.int _), some (.int _)]) dX5_readWord_19 rfl (Nat.le_of_ble_eq_true rfl) ?_
      refine gp_iload dX5_readWord_21 rfl ?_
      refine gp_iload_n dX5_readWord_23 rfl ?_
      refine gp_call (kind := 0) (args := [.int _]) (rest := _) dX5_readWord_24 (Or.inl ⟨rfl, rfl⟩) mk_5_43 (by decide) me_43 rfl rfl rfl rfl rfl rfl (ok_wordOf _ _ (by omega)) rfl ?_
      refine gp_bi (kind := 1) (args := [.ref _]) (rest := _) dX5_readWord_27 (Or.inr (Or.inl ⟨rfl, rfl⟩)) mk_5_47 (by decide) rfl rfl rfl rfl (bi_len (by omega) (by omega)) rfl ?_
      refine gp_icc (t := 35) dX5_readWord_30 (by decide) c2_ne (fun h2 => ?_) (fun h2 => ?_)
      · (try simp only [Classical.not_not] at h2)
        refine gp_iload_n dX5_readWord_35 rfl ?_
        refine gp_iload dX5_readWord_36 rfl ?_
        refine gp_bi (kind := 0) (args := [.int _, .int _]) (rest := _) dX5_readWord_38 (Or.inl ⟨rfl, rfl⟩) mk_5_76 (by decide) rfl rfl rfl rfl rfl rfl ?_
        refine gp_istore_n (ls' := [some (.ref _), some (.ref _), some (.int _), some (.int _), some (.int _)]) dX5_readWord_41 rfl (Nat.le_of_ble_eq_true rfl) ?_
        refine gp_iinc (v := (1)) (ls' := [some (.ref _), some (.ref _), some (.int _), some (.int _), some (.int _)]) dX5_readWord_42 rfl (by decide) rfl ?_
        refine gp_goto (t := 4) dX5_readWord_45 (by decide) ?_
        (rw [nI_1, max_nI (by have := y_mx_le (t := t) p i (by omega); omega) (by omega)]
         refine ih (i + 1) _ (by omega) (fun w q => ?_)
         by_cases y : w = i
         · rw [y]; intro q2; exact h2 (congrArg nI q2)
         · exact hn w (by omega))
      · (try simp only [Classical.not_not] at h2)
        refine gp_iload_n dX5_readWord_33 rfl ?_
        refine gp_iret dX5_readWord_34 rfl ?_
        (have hq : y_W t p i := (nI_eq (by omega) (by omega)).mp h2; have e := y_wa_w hq (by omega) J; exact pX.mk (by rw [e.1]) e.2.symm)

set_option maxHeartbeats 400000 in
theorem ct_readWord (d : Nat) (htx : txC z t E L J) {p : Nat} (hp : J 65 1 = nI p) (hp2 : p ≤ 1000) : cP (d + 6) 37 [.ref 65, .ref z] (mm_sh, mm_R, J, L) (pX (some (.int (y_wa t p))) L (fun K => K = y_wm t p J)) := by
  refine cP.of_gP (d := d + 5) me_37 ⟨Nat.le_of_ble_eq_true rfl, rfl⟩ ?_
  show gP mm_cs0 _ _ _ _ _ _ [some (.ref _), some (.ref _), none, none, none] [] _ _
  refine gp_pu (st' := .int (0) :: _) dX5_readWord_0 rfl ?_
  refine gp_istore_n (ls' := [some (.ref _), some (.ref _), some (.int _), none, none]) dX5_readWord_1 rfl (Nat.le_of_ble_eq_true rfl) ?_
  refine gp_pu (st' := .int (0) :: _) dX5_readWord_2 rfl ?_
  refine gp_istore_n (ls' := [some (.ref _), some (.ref _), some (.int _), some (.int _), none]) dX5_readWord_3 rfl (Nat.le_of_ble_eq_true rfl) ?_
  exact lp_rw d htx hp hp2 8 0 none (by omega) (fun w q => absurd q (Nat.not_lt_zero w))
end P98va
