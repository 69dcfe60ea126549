/-! LAYER A: the racer. A row is what a cell holds; sr puts a row. Racer row: 1 moreSlack 2 rolls 3 way 4 up 5 rope 6 stride 7 puff 8 risk 9 at 10 breath 11 wobble 12 down 13 fell 14 firstFall 15 seconds -/
theorem mm_rc_of {e : mm_Me} {k : Nat} {as : List Value} {M : mm_M} (h : M.1[k]? = some (e.2.1, 0)) : mm_rc e (.ref k :: as) M = true := by
  unfold mm_rc
  split
  · rfl
  · exact decide_eq_true h
abbrev mI : Type := Nat → Nat → Int32
abbrev mL : Type := Nat → Nat → Int64
abbrev mRow : Type := Nat → Int32
def sr (I : mI) (k : Nat) (ρ : mRow) : mI := fun a => if a = k then ρ else I a
theorem sr_same (I : mI) (k : Nat) (ρ : mRow) : sr I k ρ k = ρ := by simp [sr]
theorem sr_other (I : mI) {k a : Nat} (ρ : mRow) (h : a ≠ k) : sr I k ρ a = I a := by simp [sr, h]
theorem sr_sr (I : mI) (k : Nat) (ρ σ : mRow) : sr (sr I k ρ) k σ = sr I k σ := by funext a; by_cases h : a = k <;> simp [sr, h]
theorem sr_id (I : mI) (k : Nat) : sr I k (I k) = I := by funext a; by_cases h : a = k <;> simp [sr, h]
theorem mm_u_sr (I : mI) (k j : Nat) (v : Int32) : mm_u I k j v = sr I k (upd (I k) j v) := by
  funext a b
  by_cases h : a = k
  · subst h; simp [mm_u, sr, upd]
  · simp [mm_u, sr, h]
theorem up_s (f : mRow) (k : Nat) (x : Int32) : upd f k x k = x := by simp [upd]
theorem up_o (f : mRow) {k j : Nat} (x : Int32) (h : j ≠ k) : upd f k x j = f j := by simp [upd, h]
def r_risk (ρ : mRow) : Int32 := if ρ 10 < ρ 7 then ρ 8 + 20 else ρ 8
def r_lie (ρ : mRow) : mRow :=
  let ρ := upd ρ 12 (ρ 12 - 1)
  let ρ := upd ρ 10 (if ρ 10 + 2 < 60 then ρ 10 + 2 else 60)
  let ρ := if ρ 2 = 0 then ρ else upd ρ 9 (ρ 9 + 1)
  upd ρ 15 (ρ 15 + 1)
def r_puffs (ρ : mRow) : Int32 := if (if 0 < ρ 10 - ρ 7 then ρ 10 - ρ 7 else 0) + 1 < 60 then (if 0 < ρ 10 - ρ 7 then ρ 10 - ρ 7 else 0) + 1 else 60
def r_hop (ρ : mRow) (falls : Int32) : mRow :=
  let ρ := upd ρ 10 (r_puffs ρ)
  let ρ := if falls = 0 then upd ρ 9 (ρ 9 + ρ 6) else
    let ρ := if ρ 13 = 0 then upd ρ 14 (ρ 9) else ρ
    let ρ := upd ρ 13 (ρ 13 + 1)
    upd ρ 12 (ρ 4)
  upd ρ 15 (ρ 15 + 1)
def r_sec (ρ : mRow) : mRow :=
  if 0 < ρ 12 then r_lie ρ else
    let ρ := upd ρ 11 (ρ 11 + r_risk ρ)
    if ρ 11 < 100 then r_hop ρ 0 else r_hop (upd ρ 11 (ρ 11 - 100)) 1
def r_time (ρ : mRow) : Int32 := if ρ 9 < ρ 3 then 999 else if ρ 15 + ρ 5 < 999 then ρ 15 + ρ 5 else 999
def r_go : Nat → mRow → mRow
  | 0, ρ => ρ
  | n + 1, ρ => if ρ 9 < ρ 3 then r_go n (r_sec ρ) else ρ
theorem r_lit0 : (0 : Int32) ≤ 0 := by decide

set_option maxHeartbeats 1000000 in
theorem ok_X4_riskNow (d : Nat) (I : mI) (L : mL) (r : Nat) (hr : mm_sh[r]? = some (4, 0)) : mm_Call (d + 1) 26 [.ref r] (mm_sh, mm_R, I, L) (some (.int (r_risk (I r)))) (mm_sh, mm_R, I, L) := by
  refine mm_Call.of_go (d := d + 0) me_26 ⟨Nat.le_of_ble_eq_true rfl, rfl⟩ ?_
  show mm_Go mm_cs0 _ _ _ _ _ _ [some (.ref _)] [] _ _ _
  refine go_aload_n dX4_riskNow_0 rfl ?_
  refine go_gi dX4_riskNow_1 mf_4_111 (by decide) (by first | rfl | assumption | (simp only [*]; done)) ?_
  refine go_aload_n dX4_riskNow_4 rfl ?_
  refine go_gi dX4_riskNow_5 mf_4_84 (by decide) (by first | rfl | assumption | (simp only [*]; done)) ?_
  refine go_icc (t := 21) dX4_riskNow_8 (by decide) c2_ge (fun h1 => ?_) (fun h1 => ?_)
  · have h1' := Int32.not_lt.mpr h1
    refine go_aload_n dX4_riskNow_21 rfl ?_
    refine go_gi dX4_riskNow_22 mf_4_87 (by decide) (by first | rfl | assumption | (simp only [*]; done)) ?_
    refine go_iret dX4_riskNow_25 rfl ?_ ?_
    · first | rfl | (simp [r_risk, mm_u_sr, sr_same, sr_sr, up_s, up_o, *]; done) | ((try simp [mm_u_sr, sr_same, sr_sr, up_s, up_o, -Int32.not_lt, -Int32.not_le] at *) <;> simp [r_risk, mm_u_sr, sr_same, sr_sr, up_s, up_o, *, -Int32.not_lt, -Int32.not_le]; done) | (simp_all [r_risk, mm_u_sr, sr_same, sr_sr, up_s, up_o]; done)
    · first | rfl | (simp [r_risk, mm_u_sr, sr_same, sr_sr, up_s, up_o, *]; done) | ((try simp [mm_u_sr, sr_same, sr_sr, up_s, up_o, -Int32.not_lt, -Int32.not_le] at *) <;> simp [r_risk, mm_u_sr, sr_same, sr_sr, up_s, up_o, *, -Int32.not_lt, -Int32.not_le]; done) | (simp_all [r_risk, mm_u_sr, sr_same, sr_sr, up_s, up_o]; done)
  · have h1' := Int32.not_le.mp h1
    refine go_aload_n dX4_riskNow_11 rfl ?_
    refine go_gi dX4_riskNow_12 mf_4_87 (by decide) (by first | rfl | assumption | (simp only [*]; done)) ?_
    refine go_pu (st' := .int (20) :: _) dX4_riskNow_15 rfl ?_
    refine go_pu (st' := .int _ :: _) dX4_riskNow_17 rfl ?_
    refine go_goto (t := 25) dX4_riskNow_18 (by decide) ?_
    refine go_iret dX4_riskNow_25 rfl ?_ ?_
    · first | rfl | (simp [r_risk, mm_u_sr, sr_same, sr_sr, up_s, up_o, *]; done) | ((try simp [mm_u_sr, sr_same, sr_sr, up_s, up_o, -Int32.not_lt, -Int32.not_le] at *) <;> simp [r_risk, mm_u_sr, sr_same, sr_sr, up_s, up_o, *, -Int32.not_lt, -Int32.not_le]; done) | (simp_all [r_risk, mm_u_sr, sr_same, sr_sr, up_s, up_o]; done)
    · first | rfl | (simp [r_risk, mm_u_sr, sr_same, sr_sr, up_s, up_o, *]; done) | ((try simp [mm_u_sr, sr_same, sr_sr, up_s, up_o, -Int32.not_lt, -Int32.not_le] at *) <;> simp [r_risk, mm_u_sr, sr_same, sr_sr, up_s, up_o, *, -Int32.not_lt, -Int32.not_le]; done) | (simp_all [r_risk, mm_u_sr, sr_same, sr_sr, up_s, up_o]; done)

set_option maxHeartbeats 1000000 in
theorem ok_X4_lie (d : Nat) (I : mI) (L : mL) (r : Nat) (hr : mm_sh[r]? = some (4, 0)) : mm_Call (d + 1) 27 [.ref r] (mm_sh, mm_R, I, L) none (mm_sh, mm_R, (sr I r (r_lie (I r))), L) := by
  refine mm_Call.of_go (d := d + 0) me_27 ⟨Nat.le_of_ble_eq_true rfl, rfl⟩ ?_
  show mm_Go mm_cs0 _ _ _ _ _ _ [some (.ref _)] [] _ _ _
  refine go_aload_n dX4_lie_0 rfl ?_
  refine go_pu dX4_lie_1 rfl ?_
  refine go_gi dX4_lie_2 mf_4_123 (by decide) (by first | rfl | assumption | (simp only [*]; done)) ?_
  refine go_pu (st' := .int (1) :: _) dX4_lie_5 rfl ?_
  refine go_pu (st' := .int _ :: _) dX4_lie_6 rfl ?_
  refine go_pi dX4_lie_7 mf_4_123 rfl rfl (by first | rfl | assumption | (simp only [*]; done)) ?_
  refine go_aload_n dX4_lie_10 rfl ?_
  refine go_pu (st' := .int (60) :: _) dX4_lie_11 rfl ?_
  refine go_aload_n dX4_lie_13 rfl ?_
  refine go_gi dX4_lie_14 mf_4_111 (by decide) (by first | rfl | assumption | (simp only [*]; done)) ?_
  refine go_pu (st' := .int (2) :: _) dX4_lie_17 rfl ?_
  refine go_pu (st' := .int _ :: _) dX4_lie_18 rfl ?_
  refine go_bi (kind := 0) (args := [.int _, .int _]) (rest := _) dX4_lie_19 (Or.inl ⟨rfl, rfl⟩) mk_4_135 (by decide) rfl rfl rfl rfl rfl rfl ?_
  refine go_pi dX4_lie_22 mf_4_111 rfl rfl (by first | rfl | assumption | (simp only [*]; done)) ?_
  refine go_aload_n dX4_lie_25 rfl ?_
  refine go_gi dX4_lie_26 mf_4_43 (by decide) (by first | rfl | assumption | (simp only [*]; done)) ?_
  refine go_ifc (t := 42) dX4_lie_29 (by decide) c1_eq (fun h1 => ?_) (fun h1 => ?_)
  · refine go_aload_n dX4_lie_42 rfl ?_
    refine go_pu dX4_lie_43 rfl ?_
    refine go_gi dX4_lie_44 mf_4_129 (by decide) (by first | rfl | assumption | (simp only [*]; done)) ?_
    refine go_pu (st' := .int (1) :: _) dX4_lie_47 rfl ?_
    refine go_pu (st' := .int _ :: _) dX4_lie_48 rfl ?_
    refine go_pi dX4_lie_49 mf_4_129 rfl rfl (by first | rfl | assumption | (simp only [*]; done)) ?_
    refine go_vret dX4_lie_52 rfl ?_ ?_
    · first | rfl | (simp [r_lie, mm_u_sr, sr_same, sr_sr, up_s, up_o, *]; done) | ((try simp [mm_u_sr, sr_same, sr_sr, up_s, up_o, -Int32.not_lt, -Int32.not_le] at *) <;> simp [r_lie, mm_u_sr, sr_same, sr_sr, up_s, up_o, *, -Int32.not_lt, -Int32.not_le]; done) | (simp_all [r_lie, mm_u_sr, sr_same, sr_sr, up_s, up_o]; done)
    · first | rfl | (simp [r_lie, mm_u_sr, sr_same, sr_sr, up_s, up_o, *]; done) | ((try simp [mm_u_sr, sr_same, sr_sr, up_s, up_o, -Int32.not_lt, -Int32.not_le] at *) <;> simp [r_lie, mm_u_sr, sr_same, sr_sr, up_s, up_o, *, -Int32.not_lt, -Int32.not_le]; done) | (simp_all [r_lie, mm_u_sr, sr_same, sr_sr, up_s, up_o]; done)
  · refine go_aload_n dX4_lie_32 rfl ?_
    refine go_pu dX4_lie_33 rfl ?_
    refine go_gi dX4_lie_34 mf_4_117 (by decide) (by first | rfl | assumption | (simp only [*]; done)) ?_
    refine go_pu (st' := .int (1) :: _) dX4_lie_37 rfl ?_
    refine go_pu (st' := .int _ :: _) dX4_lie_38 rfl ?_
    refine go_pi dX4_lie_39 mf_4_117 rfl rfl (by first | rfl | assumption | (simp only [*]; done)) ?_
    refine go_aload_n dX4_lie_42 rfl ?_
    refine go_pu dX4_lie_43 rfl ?_
    refine go_gi dX4_lie_44 mf_4_129 (by decide) (by first | rfl | assumption | (simp only [*]; done)) ?_
    refine go_pu (st' := .int (1) :: _) dX4_lie_47 rfl ?_
    refine go_pu (st' := .int _ :: _) dX4_lie_48 rfl ?_
    refine go_pi dX4_lie_49 mf_4_129 rfl rfl (by first | rfl | assumption | (simp only [*]; done)) ?_
    refine go_vret dX4_lie_52 rfl ?_ ?_
    · first | rfl | (simp [r_lie, mm_u_sr, sr_same, sr_sr, up_s, up_o, *]; done) | ((try simp [mm_u_sr, sr_same, sr_sr, up_s, up_o, -Int32.not_lt, -Int32.not_le] at *) <;> simp [r_lie, mm_u_sr, sr_same, sr_sr, up_s, up_o, *, -Int32.not_lt, -Int32.not_le]; done) | (simp_all [r_lie, mm_u_sr, sr_same, sr_sr, up_s, up_o]; done)
    · first | rfl | (simp [r_lie, mm_u_sr, sr_same, sr_sr, up_s, up_o, *]; done) | ((try simp [mm_u_sr, sr_same, sr_sr, up_s, up_o, -Int32.not_lt, -Int32.not_le] at *) <;> simp [r_lie, mm_u_sr, sr_same, sr_sr, up_s, up_o, *, -Int32.not_lt, -Int32.not_le]; done) | (simp_all [r_lie, mm_u_sr, sr_same, sr_sr, up_s, up_o]; done)

set_option maxHeartbeats 1000000 in
theorem ok_X4_hop (d : Nat) (I : mI) (L : mL) (r : Nat) (hr : mm_sh[r]? = some (4, 0)) (f : Int32) : mm_Call (d + 1) 28 [.ref r, .int f] (mm_sh, mm_R, I, L) none (mm_sh, mm_R, (sr I r (r_hop (I r) f)), L) := by
  refine mm_Call.of_go (d := d + 0) me_28 ⟨Nat.le_of_ble_eq_true rfl, rfl⟩ ?_
  show mm_Go mm_cs0 _ _ _ _ _ _ [some (.ref _), some (.int _)] [] _ _ _
  refine go_aload_n dX4_hop_0 rfl ?_
  refine go_pu (st' := .int (60) :: _) dX4_hop_1 rfl ?_
  refine go_pu (st' := .int (0) :: _) dX4_hop_3 rfl ?_
  refine go_aload_n dX4_hop_4 rfl ?_
  refine go_gi dX4_hop_5 mf_4_111 (by decide) (by first | rfl | assumption | (simp only [*]; done)) ?_
  refine go_aload_n dX4_hop_8 rfl ?_
  refine go_gi dX4_hop_9 mf_4_84 (by decide) (by first | rfl | assumption | (simp only [*]; done)) ?_
  refine go_pu (st' := .int _ :: _) dX4_hop_12 rfl ?_
  refine go_bi (kind := 0) (args := [.int _, .int _]) (rest := _) dX4_hop_13 (Or.inl ⟨rfl, rfl⟩) mk_4_104 (by decide) rfl rfl rfl rfl rfl rfl ?_
  refine go_pu (st' := .int (1) :: _) dX4_hop_16 rfl ?_
  refine go_pu (st' := .int _ :: _) dX4_hop_17 rfl ?_
  refine go_bi (kind := 0) (args := [.int _, .int _]) (rest := _) dX4_hop_18 (Or.inl ⟨rfl, rfl⟩) mk_4_135 (by decide) rfl rfl rfl rfl rfl rfl ?_
  refine go_pi dX4_hop_21 mf_4_111 rfl rfl (by first | rfl | assumption | (simp only [*]; done)) ?_
  refine go_iload_n dX4_hop_24 rfl ?_
  refine go_ifc (t := 64) dX4_hop_25 (by decide) c1_eq (fun h1 => ?_) (fun h1 => ?_)
  · refine go_aload_n dX4_hop_64 rfl ?_
    refine go_pu dX4_hop_65 rfl ?_
    refine go_gi dX4_hop_66 mf_4_117 (by decide) (by first | rfl | assumption | (simp only [*]; done)) ?_
    refine go_aload_n dX4_hop_69 rfl ?_
    refine go_gi dX4_hop_70 mf_4_75 (by decide) (by first | rfl | assumption | (simp only [*]; done)) ?_
    refine go_pu (st' := .int _ :: _) dX4_hop_73 rfl ?_
    refine go_pi dX4_hop_74 mf_4_117 rfl rfl (by first | rfl | assumption | (simp only [*]; done)) ?_
    refine go_aload_n dX4_hop_77 rfl ?_
    refine go_pu dX4_hop_78 rfl ?_
    refine go_gi dX4_hop_79 mf_4_129 (by decide) (by first | rfl | assumption | (simp only [*]; done)) ?_
    refine go_pu (st' := .int (1) :: _) dX4_hop_82 rfl ?_
    refine go_pu (st' := .int _ :: _) dX4_hop_83 rfl ?_
    refine go_pi dX4_hop_84 mf_4_129 rfl rfl (by first | rfl | assumption | (simp only [*]; done)) ?_
    refine go_vret dX4_hop_87 rfl ?_ ?_
    · first | rfl | (simp [r_hop, r_puffs, mm_u_sr, sr_same, sr_sr, up_s, up_o, *]; done) | ((try simp [mm_u_sr, sr_same, sr_sr, up_s, up_o, -Int32.not_lt, -Int32.not_le] at *) <;> simp [r_hop, r_puffs, mm_u_sr, sr_same, sr_sr, up_s, up_o, *, -Int32.not_lt, -Int32.not_le]; done) | (simp_all [r_hop, r_puffs, mm_u_sr, sr_same, sr_sr, up_s, up_o]; done)
    · first | rfl | (simp [r_hop, r_puffs, mm_u_sr, sr_same, sr_sr, up_s, up_o, *]; done) | ((try simp [mm_u_sr, sr_same, sr_sr, up_s, up_o, -Int32.not_lt, -Int32.not_le] at *) <;> simp [r_hop, r_puffs, mm_u_sr, sr_same, sr_sr, up_s, up_o, *, -Int32.not_lt, -Int32.not_le]; done) | (simp_all [r_hop, r_puffs, mm_u_sr, sr_same, sr_sr, up_s, up_o]; done)
  · refine go_aload_n dX4_hop_28 rfl ?_
    refine go_gi dX4_hop_29 mf_4_126 (by decide) (by first | rfl | assumption | (simp only [*]; done)) ?_
    refine go_ifc (t := 43) dX4_hop_32 (by decide) c1_ne (fun h2 => ?_) (fun h2 => ?_)
    · refine go_aload_n dX4_hop_43 rfl ?_
      refine go_pu dX4_hop_44 rfl ?_
      refine go_gi dX4_hop_45 mf_4_126 (by decide) (by first | rfl | assumption | (simp only [*]; done)) ?_
      refine go_pu (st' := .int (1) :: _) dX4_hop_48 rfl ?_
      refine go_pu (st' := .int _ :: _) dX4_hop_49 rfl ?_
      refine go_pi dX4_hop_50 mf_4_126 rfl rfl (by first | rfl | assumption | (simp only [*]; done)) ?_
      refine go_aload_n dX4_hop_53 rfl ?_
      refine go_aload_n dX4_hop_54 rfl ?_
      refine go_gi dX4_hop_55 mf_4_101 (by decide) (by first | rfl | assumption | (simp only [*]; done)) ?_
      refine go_pi dX4_hop_58 mf_4_123 rfl rfl (by first | rfl | assumption | (simp only [*]; done)) ?_
      refine go_goto (t := 77) dX4_hop_61 (by decide) ?_
      refine go_aload_n dX4_hop_77 rfl ?_
      refine go_pu dX4_hop_78 rfl ?_
      refine go_gi dX4_hop_79 mf_4_129 (by decide) (by first | rfl | assumption | (simp only [*]; done)) ?_
      refine go_pu (st' := .int (1) :: _) dX4_hop_82 rfl ?_
      refine go_pu (st' := .int _ :: _) dX4_hop_83 rfl ?_
      refine go_pi dX4_hop_84 mf_4_129 rfl rfl (by first | rfl | assumption | (simp only [*]; done)) ?_
      refine go_vret dX4_hop_87 rfl ?_ ?_
      · first | rfl | (simp [r_hop, r_puffs, mm_u_sr, sr_same, sr_sr, up_s, up_o, *]; done) | ((try simp [mm_u_sr, sr_same, sr_sr, up_s, up_o, -Int32.not_lt, -Int32.not_le] at *) <;> simp [r_hop, r_puffs, mm_u_sr, sr_same, sr_sr, up_s, up_o, *, -Int32.not_lt, -Int32.not_le]; done) | (simp_all [r_hop, r_puffs, mm_u_sr, sr_same, sr_sr, up_s, up_o]; done)
      · first | rfl | (simp [r_hop, r_puffs, mm_u_sr, sr_same, sr_sr, up_s, up_o, *]; done) | ((try simp [mm_u_sr, sr_same, sr_sr, up_s, up_o, -Int32.not_lt, -Int32.not_le] at *) <;> simp [r_hop, r_puffs, mm_u_sr, sr_same, sr_sr, up_s, up_o, *, -Int32.not_lt, -Int32.not_le]; done) | (simp_all [r_hop, r_puffs, mm_u_sr, sr_same, sr_sr, up_s, up_o]; done)
    · refine go_aload_n dX4_hop_35 rfl ?_
      refine go_aload_n dX4_hop_36 rfl ?_
      refine go_gi dX4_hop_37 mf_4_117 (by decide) (by first | rfl | assumption | (simp only [*]; done)) ?_
      refine go_pi dX4_hop_40 mf_4_18 rfl rfl (by first | rfl | assumption | (simp only [*]; done)) ?_
      refine go_aload_n dX4_hop_43 rfl ?_
      refine go_pu dX4_hop_44 rfl ?_
      refine go_gi dX4_hop_45 mf_4_126 (by decide) (by first | rfl | assumption | (simp only [*]; done)) ?_
      refine go_pu (st' := .int (1) :: _) dX4_hop_48 rfl ?_
      refine go_pu (st' := .int _ :: _) dX4_hop_49 rfl ?_
      refine go_pi dX4_hop_50 mf_4_126 rfl rfl (by first | rfl | assumption | (simp only [*]; done)) ?_
      refine go_aload_n dX4_hop_53 rfl ?_
      refine go_aload_n dX4_hop_54 rfl ?_
      refine go_gi dX4_hop_55 mf_4_101 (by decide) (by first | rfl | assumption | (simp only [*]; done)) ?_
      refine go_pi dX4_hop_58 mf_4_123 rfl rfl (by first | rfl | assumption | (simp only [*]; done)) ?_
      refine go_goto (t := 77) dX4_hop_61 (by decide) ?_
      refine go_aload_n dX4_hop_77 rfl ?_
      refine go_pu dX4_hop_78 rfl ?_
      refine go_gi dX4_hop_79 mf_4_129 (by decide) (by first | rfl | assumption | (simp only [*]; done)) ?_
      refine go_pu (st' := .int (1) :: _) dX4_hop_82 rfl ?_
      refine go_pu (st' := .int _ :: _) dX4_hop_83 rfl ?_
      refine go_pi dX4_hop_84 mf_4_129 rfl rfl (by first | rfl | assumption | (simp only [*]; done)) ?_
      refine go_vret dX4_hop_87 rfl ?_ ?_
      · first | rfl | (simp [r_hop, r_puffs, mm_u_sr, sr_same, sr_sr, up_s, up_o, *]; done) | ((try simp [mm_u_sr, sr_same, sr_sr, up_s, up_o, -Int32.not_lt, -Int32.not_le] at *) <;> simp [r_hop, r_puffs, mm_u_sr, sr_same, sr_sr, up_s, up_o, *, -Int32.not_lt, -Int32.not_le]; done) | (simp_all [r_hop, r_puffs, mm_u_sr, sr_same, sr_sr, up_s, up_o]; done)
      · first | rfl | (simp [r_hop, r_puffs, mm_u_sr, sr_same, sr_sr, up_s, up_o, *]; done) | ((try simp [mm_u_sr, sr_same, sr_sr, up_s, up_o, -Int32.not_lt, -Int32.not_le] at *) <;> simp [r_hop, r_puffs, mm_u_sr, sr_same, sr_sr, up_s, up_o, *, -Int32.not_lt, -Int32.not_le]; done) | (simp_all [r_hop, r_puffs, mm_u_sr, sr_same, sr_sr, up_s, up_o]; done)

set_option maxHeartbeats 1000000 in
theorem ok_X4_goASecond (d : Nat) (I : mI) (L : mL) (r : Nat) (hr : mm_sh[r]? = some (4, 0)) : mm_Call (d + 2) 29 [.ref r] (mm_sh, mm_R, I, L) none (mm_sh, mm_R, (sr I r (r_sec (I r))), L) := by
  refine mm_Call.of_go (d := d + 1) me_29 ⟨Nat.le_of_ble_eq_true rfl, rfl⟩ ?_
  show mm_Go mm_cs0 _ _ _ _ _ _ [some (.ref _), none] [] _ _ _
  refine go_aload_n dX4_goASecond_0 rfl ?_
  refine go_gi dX4_goASecond_1 mf_4_123 (by decide) (by first | rfl | assumption | (simp only [*]; done)) ?_
  refine go_ifc (t := 12) dX4_goASecond_4 (by decide) c1_le (fun h1 => ?_) (fun h1 => ?_)
  · have h1' := Int32.not_lt.mpr h1
    refine go_aload_n dX4_goASecond_12 rfl ?_
    refine go_pu dX4_goASecond_13 rfl ?_
    refine go_gi dX4_goASecond_14 mf_4_120 (by decide) (by first | rfl | assumption | (simp only [*]; done)) ?_
    refine go_aload_n dX4_goASecond_17 rfl ?_
    refine go_call (kind := 1) (args := [.ref _]) (rest := _) dX4_goASecond_18 (Or.inr (Or.inl ⟨rfl, rfl⟩)) mk_4_141 (by decide) me_26 rfl rfl rfl rfl rfl (mm_rc_of (by first | rfl | assumption | (simp only [*]; done))) (ok_X4_riskNow _ _ _ _ hr) rfl ?_
    refine go_pu (st' := .int _ :: _) dX4_goASecond_21 rfl ?_
    refine go_pi dX4_goASecond_22 mf_4_120 rfl rfl (by first | rfl | assumption | (simp only [*]; done)) ?_
    refine go_aload_n dX4_goASecond_25 rfl ?_
    refine go_gi dX4_goASecond_26 mf_4_120 (by decide) (by first | rfl | assumption | (simp only [*]; done)) ?_
    refine go_pu (st' := .int (100) :: _) dX4_goASecond_29 rfl ?_
    refine go_icc (t := 38) dX4_goASecond_31 (by decide) c2_lt (fun h2 => ?_) (fun h2 => ?_)
    · have h2' := Int32.not_le.mpr h2
      refine go_pu (st' := .int (0) :: _) dX4_goASecond_38 rfl ?_
      refine go_istore_n (ls' := [some (.ref _), some (.int _)]) dX4_goASecond_39 rfl (Nat.le_of_ble_eq_true rfl) ?_
      refine go_iload_n dX4_goASecond_40 rfl ?_
      refine go_ifc (t := 55) dX4_goASecond_41 (by decide) c1_eq (fun h3 => ?_) (fun h3 => ?_)
      · refine go_aload_n dX4_goASecond_55 rfl ?_
        refine go_iload_n dX4_goASecond_56 rfl ?_
        refine go_call (kind := 1) (args := [.ref _, .int _]) (rest := _) dX4_goASecond_57 (Or.inr (Or.inl ⟨rfl, rfl⟩)) mk_4_145 (by decide) me_28 rfl rfl rfl rfl rfl (mm_rc_of (by first | rfl | assumption | (simp only [*]; done))) (ok_X4_hop _ _ _ _ hr _) rfl ?_
        refine go_vret dX4_goASecond_60 rfl ?_ ?_
        · first | rfl | (simp [r_sec, mm_u_sr, sr_same, sr_sr, up_s, up_o, *]; done) | ((try simp [mm_u_sr, sr_same, sr_sr, up_s, up_o, -Int32.not_lt, -Int32.not_le] at *) <;> simp [r_sec, mm_u_sr, sr_same, sr_sr, up_s, up_o, *, -Int32.not_lt, -Int32.not_le]; done) | (simp_all [r_sec, mm_u_sr, sr_same, sr_sr, up_s, up_o]; done)
        · first | rfl | (simp [r_sec, mm_u_sr, sr_same, sr_sr, up_s, up_o, *]; done) | ((try simp [mm_u_sr, sr_same, sr_sr, up_s, up_o, -Int32.not_lt, -Int32.not_le] at *) <;> simp [r_sec, mm_u_sr, sr_same, sr_sr, up_s, up_o, *, -Int32.not_lt, -Int32.not_le]; done) | (simp_all [r_sec, mm_u_sr, sr_same, sr_sr, up_s, up_o]; done)
      · refine go_aload_n dX4_goASecond_44 rfl ?_
        refine go_pu dX4_goASecond_45 rfl ?_
        refine go_gi dX4_goASecond_46 mf_4_120 (by decide) (by first | rfl | assumption | (simp only [*]; done)) ?_
        refine go_pu (st' := .int (100) :: _) dX4_goASecond_49 rfl ?_
        refine go_pu (st' := .int _ :: _) dX4_goASecond_51 rfl ?_
        refine go_pi dX4_goASecond_52 mf_4_120 rfl rfl (by first | rfl | assumption | (simp only [*]; done)) ?_
        refine go_aload_n dX4_goASecond_55 rfl ?_
        refine go_iload_n dX4_goASecond_56 rfl ?_
        refine go_call (kind := 1) (args := [.ref _, .int _]) (rest := _) dX4_goASecond_57 (Or.inr (Or.inl ⟨rfl, rfl⟩)) mk_4_145 (by decide) me_28 rfl rfl rfl rfl rfl (mm_rc_of (by first | rfl | assumption | (simp only [*]; done))) (ok_X4_hop _ _ _ _ hr _) rfl ?_
        refine go_vret dX4_goASecond_60 rfl ?_ ?_
        · first | rfl | (simp [r_sec, mm_u_sr, sr_same, sr_sr, up_s, up_o, *]; done) | ((try simp [mm_u_sr, sr_same, sr_sr, up_s, up_o, -Int32.not_lt, -Int32.not_le] at *) <;> simp [r_sec, mm_u_sr, sr_same, sr_sr, up_s, up_o, *, -Int32.not_lt, -Int32.not_le]; done) | (simp_all [r_sec, mm_u_sr, sr_same, sr_sr, up_s, up_o]; done)
        · first | rfl | (simp [r_sec, mm_u_sr, sr_same, sr_sr, up_s, up_o, *]; done) | ((try simp [mm_u_sr, sr_same, sr_sr, up_s, up_o, -Int32.not_lt, -Int32.not_le] at *) <;> simp [r_sec, mm_u_sr, sr_same, sr_sr, up_s, up_o, *, -Int32.not_lt, -Int32.not_le]; done) | (simp_all [r_sec, mm_u_sr, sr_same, sr_sr, up_s, up_o]; done)
    · have h2' := Int32.not_lt.mp h2
      refine go_pu (st' := .int (1) :: _) dX4_goASecond_34 rfl ?_
      refine go_goto (t := 39) dX4_goASecond_35 (by decide) ?_
      refine go_istore_n (ls' := [some (.ref _), some (.int _)]) dX4_goASecond_39 rfl (Nat.le_of_ble_eq_true rfl) ?_
      refine go_iload_n dX4_goASecond_40 rfl ?_
      refine go_ifc (t := 55) dX4_goASecond_41 (by decide) c1_eq (fun h4 => ?_) (fun h4 => ?_)
      · refine go_aload_n dX4_goASecond_55 rfl ?_
        refine go_iload_n dX4_goASecond_56 rfl ?_
        refine go_call (kind := 1) (args := [.ref _, .int _]) (rest := _) dX4_goASecond_57 (Or.inr (Or.inl ⟨rfl, rfl⟩)) mk_4_145 (by decide) me_28 rfl rfl rfl rfl rfl (mm_rc_of (by first | rfl | assumption | (simp only [*]; done))) (ok_X4_hop _ _ _ _ hr _) rfl ?_
        refine go_vret dX4_goASecond_60 rfl ?_ ?_
        · first | rfl | (simp [r_sec, mm_u_sr, sr_same, sr_sr, up_s, up_o, *]; done) | ((try simp [mm_u_sr, sr_same, sr_sr, up_s, up_o, -Int32.not_lt, -Int32.not_le] at *) <;> simp [r_sec, mm_u_sr, sr_same, sr_sr, up_s, up_o, *, -Int32.not_lt, -Int32.not_le]; done) | (simp_all [r_sec, mm_u_sr, sr_same, sr_sr, up_s, up_o]; done)
        · first | rfl | (simp [r_sec, mm_u_sr, sr_same, sr_sr, up_s, up_o, *]; done) | ((try simp [mm_u_sr, sr_same, sr_sr, up_s, up_o, -Int32.not_lt, -Int32.not_le] at *) <;> simp [r_sec, mm_u_sr, sr_same, sr_sr, up_s, up_o, *, -Int32.not_lt, -Int32.not_le]; done) | (simp_all [r_sec, mm_u_sr, sr_same, sr_sr, up_s, up_o]; done)
      · refine go_aload_n dX4_goASecond_44 rfl ?_
        refine go_pu dX4_goASecond_45 rfl ?_
        refine go_gi dX4_goASecond_46 mf_4_120 (by decide) (by first | rfl | assumption | (simp only [*]; done)) ?_
        refine go_pu (st' := .int (100) :: _) dX4_goASecond_49 rfl ?_
        refine go_pu (st' := .int _ :: _) dX4_goASecond_51 rfl ?_
        refine go_pi dX4_goASecond_52 mf_4_120 rfl rfl (by first | rfl | assumption | (simp only [*]; done)) ?_
        refine go_aload_n dX4_goASecond_55 rfl ?_
        refine go_iload_n dX4_goASecond_56 rfl ?_
        refine go_call (kind := 1) (args := [.ref _, .int _]) (rest := _) dX4_goASecond_57 (Or.inr (Or.inl ⟨rfl, rfl⟩)) mk_4_145 (by decide) me_28 rfl rfl rfl rfl rfl (mm_rc_of (by first | rfl | assumption | (simp only [*]; done))) (ok_X4_hop _ _ _ _ hr _) rfl ?_
        refine go_vret dX4_goASecond_60 rfl ?_ ?_
        · first | rfl | (simp [r_sec, mm_u_sr, sr_same, sr_sr, up_s, up_o, *]; done) | ((try simp [mm_u_sr, sr_same, sr_sr, up_s, up_o, -Int32.not_lt, -Int32.not_le] at *) <;> simp [r_sec, mm_u_sr, sr_same, sr_sr, up_s, up_o, *, -Int32.not_lt, -Int32.not_le]; done) | (simp_all [r_sec, mm_u_sr, sr_same, sr_sr, up_s, up_o]; done)
        · first | rfl | (simp [r_sec, mm_u_sr, sr_same, sr_sr, up_s, up_o, *]; done) | ((try simp [mm_u_sr, sr_same, sr_sr, up_s, up_o, -Int32.not_lt, -Int32.not_le] at *) <;> simp [r_sec, mm_u_sr, sr_same, sr_sr, up_s, up_o, *, -Int32.not_lt, -Int32.not_le]; done) | (simp_all [r_sec, mm_u_sr, sr_same, sr_sr, up_s, up_o]; done)
  · have h1' := Int32.not_le.mp h1
    refine go_aload_n dX4_goASecond_7 rfl ?_
    refine go_call (kind := 1) (args := [.ref _]) (rest := _) dX4_goASecond_8 (Or.inr (Or.inl ⟨rfl, rfl⟩)) mk_4_138 (by decide) me_27 rfl rfl rfl rfl rfl (mm_rc_of (by first | rfl | assumption | (simp only [*]; done))) (ok_X4_lie _ _ _ _ hr) rfl ?_
    refine go_vret dX4_goASecond_11 rfl ?_ ?_
    · first | rfl | (simp [r_sec, mm_u_sr, sr_same, sr_sr, up_s, up_o, *]; done) | ((try simp [mm_u_sr, sr_same, sr_sr, up_s, up_o, -Int32.not_lt, -Int32.not_le] at *) <;> simp [r_sec, mm_u_sr, sr_same, sr_sr, up_s, up_o, *, -Int32.not_lt, -Int32.not_le]; done) | (simp_all [r_sec, mm_u_sr, sr_same, sr_sr, up_s, up_o]; done)
    · first | rfl | (simp [r_sec, mm_u_sr, sr_same, sr_sr, up_s, up_o, *]; done) | ((try simp [mm_u_sr, sr_same, sr_sr, up_s, up_o, -Int32.not_lt, -Int32.not_le] at *) <;> simp [r_sec, mm_u_sr, sr_same, sr_sr, up_s, up_o, *, -Int32.not_lt, -Int32.not_le]; done) | (simp_all [r_sec, mm_u_sr, sr_same, sr_sr, up_s, up_o]; done)

set_option maxHeartbeats 1000000 in
theorem ok_X4_timeNow (d : Nat) (I : mI) (L : mL) (r : Nat) (hr : mm_sh[r]? = some (4, 0)) : mm_Call (d + 1) 31 [.ref r] (mm_sh, mm_R, I, L) (some (.int (r_time (I r)))) (mm_sh, mm_R, I, L) := by
  refine mm_Call.of_go (d := d + 0) me_31 ⟨Nat.le_of_ble_eq_true rfl, rfl⟩ ?_
  show mm_Go mm_cs0 _ _ _ _ _ _ [some (.ref _)] [] _ _ _
  refine go_aload_n dX4_timeNow_0 rfl ?_
  refine go_gi dX4_timeNow_1 mf_4_117 (by decide) (by first | rfl | assumption | (simp only [*]; done)) ?_
  refine go_aload_n dX4_timeNow_4 rfl ?_
  refine go_gi dX4_timeNow_5 mf_4_98 (by decide) (by first | rfl | assumption | (simp only [*]; done)) ?_
  refine go_icc (t := 17) dX4_timeNow_8 (by decide) c2_ge (fun h1 => ?_) (fun h1 => ?_)
  · have h1' := Int32.not_lt.mpr h1
    refine go_pu (st' := .int (999) :: _) dX4_timeNow_17 rfl ?_
    refine go_aload_n dX4_timeNow_20 rfl ?_
    refine go_gi dX4_timeNow_21 mf_4_129 (by decide) (by first | rfl | assumption | (simp only [*]; done)) ?_
    refine go_aload_n dX4_timeNow_24 rfl ?_
    refine go_gi dX4_timeNow_25 mf_4_108 (by decide) (by first | rfl | assumption | (simp only [*]; done)) ?_
    refine go_pu (st' := .int _ :: _) dX4_timeNow_28 rfl ?_
    refine go_bi (kind := 0) (args := [.int _, .int _]) (rest := _) dX4_timeNow_29 (Or.inl ⟨rfl, rfl⟩) mk_4_135 (by decide) rfl rfl rfl rfl rfl rfl ?_
    refine go_iret dX4_timeNow_32 rfl ?_ ?_
    · first | rfl | (simp [r_time, mm_u_sr, sr_same, sr_sr, up_s, up_o, *]; done) | ((try simp [mm_u_sr, sr_same, sr_sr, up_s, up_o, -Int32.not_lt, -Int32.not_le] at *) <;> simp [r_time, mm_u_sr, sr_same, sr_sr, up_s, up_o, *, -Int32.not_lt, -Int32.not_le]; done) | (simp_all [r_time, mm_u_sr, sr_same, sr_sr, up_s, up_o]; done)
    · first | rfl | (simp [r_time, mm_u_sr, sr_same, sr_sr, up_s, up_o, *]; done) | ((try simp [mm_u_sr, sr_same, sr_sr, up_s, up_o, -Int32.not_lt, -Int32.not_le] at *) <;> simp [r_time, mm_u_sr, sr_same, sr_sr, up_s, up_o, *, -Int32.not_lt, -Int32.not_le]; done) | (simp_all [r_time, mm_u_sr, sr_same, sr_sr, up_s, up_o]; done)
  · have h1' := Int32.not_le.mp h1
    refine go_pu (st' := .int (999) :: _) dX4_timeNow_11 rfl ?_
    refine go_goto (t := 32) dX4_timeNow_14 (by decide) ?_
    refine go_iret dX4_timeNow_32 rfl ?_ ?_
    · first | rfl | (simp [r_time, mm_u_sr, sr_same, sr_sr, up_s, up_o, *]; done) | ((try simp [mm_u_sr, sr_same, sr_sr, up_s, up_o, -Int32.not_lt, -Int32.not_le] at *) <;> simp [r_time, mm_u_sr, sr_same, sr_sr, up_s, up_o, *, -Int32.not_lt, -Int32.not_le]; done) | (simp_all [r_time, mm_u_sr, sr_same, sr_sr, up_s, up_o]; done)
    · first | rfl | (simp [r_time, mm_u_sr, sr_same, sr_sr, up_s, up_o, *]; done) | ((try simp [mm_u_sr, sr_same, sr_sr, up_s, up_o, -Int32.not_lt, -Int32.not_le] at *) <;> simp [r_time, mm_u_sr, sr_same, sr_sr, up_s, up_o, *, -Int32.not_lt, -Int32.not_le]; done) | (simp_all [r_time, mm_u_sr, sr_same, sr_sr, up_s, up_o]; done)

set_option maxHeartbeats 1000000 in
theorem lp_X4_goToWay (d : Nat) (L : mL) (r : Nat) (hr : mm_sh[r]? = some (4, 0)) (N : Nat) (hN : N < 2 ^ 31) : ∀ (n i : Nat) (I : mI), i + n = N → mm_Go mm_cs0 (d + 2) 4 false none cX4_goToWay 2 [some (.ref r), some (.int (nI N)), some (.int (nI i))] [] (mm_sh, mm_R, I, L) none (mm_sh, mm_R, sr I r (r_go n (I r)), L) := by
  intro n
  induction n with
  | zero =>
    intro i I hi
    obtain rfl : i = N := by omega
    have hc : nI i ≤ nI i := Int32.le_refl _
    refine go_iload_n dX4_goToWay_2 rfl ?_
    refine go_iload_n dX4_goToWay_3 rfl ?_
    refine go_icc (t := 28) dX4_goToWay_4 (by decide) c2_ge (fun h1 => ?_) (fun h1 => ?_)
    · have h1' := Int32.not_lt.mpr h1
      refine go_vret dX4_goToWay_28 rfl ?_ ?_
      · first | rfl | (simp [r_go, sr_id, *]; done)
      · first | rfl | (simp [r_go, sr_id, *]; done)
    · exact absurd hc h1
  | succ n ih =>
    intro i I hi
    have hc : ¬ nI N ≤ nI i := nI_ge (by omega) hN
    refine go_iload_n dX4_goToWay_2 rfl ?_
    refine go_iload_n dX4_goToWay_3 rfl ?_
    refine go_icc (t := 28) dX4_goToWay_4 (by decide) c2_ge (fun h1 => ?_) (fun h1 => ?_)
    · exact absurd h1 hc
    · have h1' := Int32.not_le.mp h1
      refine go_aload_n dX4_goToWay_7 rfl ?_
      refine go_gi dX4_goToWay_8 mf_4_117 (by decide) (by first | rfl | assumption | (simp only [*]; done)) ?_
      refine go_aload_n dX4_goToWay_11 rfl ?_
      refine go_gi dX4_goToWay_12 mf_4_98 (by decide) (by first | rfl | assumption | (simp only [*]; done)) ?_
      refine go_icc (t := 28) dX4_goToWay_15 (by decide) c2_ge (fun h2 => ?_) (fun h2 => ?_)
      · have h2' := Int32.not_lt.mpr h2
        refine go_vret dX4_goToWay_28 rfl ?_ ?_
        · first | rfl | (simp [r_go, sr_id, *]; done)
        · first | rfl | (simp [r_go, sr_id, *]; done)
      · have h2' := Int32.not_le.mp h2
        refine go_aload_n dX4_goToWay_18 rfl ?_
        refine go_call (kind := 1) (args := [.ref _]) (rest := _) dX4_goToWay_19 (Or.inr (Or.inl ⟨rfl, rfl⟩)) mk_4_149 (by decide) me_29 rfl rfl rfl rfl rfl (mm_rc_of (by first | rfl | assumption | (simp only [*]; done))) (ok_X4_goASecond _ _ _ _ hr) rfl ?_
        refine go_iinc (v := (1)) (ls' := [some (.ref _), some (.int _), some (.int _)]) dX4_goToWay_22 rfl (by decide) rfl ?_
        refine go_goto (t := 2) dX4_goToWay_25 (by decide) ?_
        (rw [nI_1]; simpa [r_go, sr_sr, sr_same, *] using ih (i + 1) (sr I r (r_sec (I r))) (by omega))

set_option maxHeartbeats 1000000 in
theorem ok_X4_goToWay (d : Nat) (I : mI) (L : mL) (r : Nat) (hr : mm_sh[r]? = some (4, 0)) (N : Nat) (hN : N < 2 ^ 31) : mm_Call (d + 3) 30 [.ref r, .int (nI N)] (mm_sh, mm_R, I, L) none (mm_sh, mm_R, (sr I r (r_go N (I r))), L) := by
  refine mm_Call.of_go (d := d + 2) me_30 ⟨Nat.le_of_ble_eq_true rfl, rfl⟩ ?_
  show mm_Go mm_cs0 _ _ _ _ _ _ [some (.ref _), some (.int _), none] [] _ _ _
  refine go_pu (st' := .int (0) :: _) dX4_goToWay_0 rfl ?_
  refine go_istore_n (ls' := [some (.ref _), some (.int _), some (.int _)]) dX4_goToWay_1 rfl (Nat.le_of_ble_eq_true rfl) ?_
  exact lp_X4_goToWay d L r hr N hN N 0 I (Nat.zero_add N)
