/-! LAYER A: strides, puffs; the reference's hopper. Its row 108: 2 way 3 up 4 rope 5 wind 35 kind 36 part 37 legs 38 slack 39 holes 40 ahead 41 rolls 42 place 43 breath 44 wobble 45 down 46 fell -/
def isKd (κ : Int32) : Prop := κ = 0 ∨ κ = 1 ∨ κ = 2 ∨ κ = 3 ∨ κ = 4 ∨ κ = 5 ∨ κ = 6
def k_max1 (x : Int32) : Int32 := if x < 1 then 1 else x
/-- the stride of a kind with a, legs and slack -/
def k_stride (κ a l s : Int32) : Int32 := if κ = 1 then k_max1 (l - 1) else if κ = 2 then l + 2 else if κ = 3 then (l + 1) / 2 else if κ = 4 then k_max1 (l + 1 - s) else if κ = 5 then l + a else if κ = 6 then k_max1 (l - s) else l
def k_puff (κ : Int32) : Int32 := if κ = 1 then 1 else if κ = 2 then 4 else if κ = 3 then 0 else if κ = 4 then 3 else if κ = 5 then 5 else 2
theorem k_max1_a (x : Int32) : (if (1 : Int32) < x then x else 1) = k_max1 x := by
  unfold k_max1
  by_cases h : x < 1
  · rw [if_pos h, if_neg (Int32.not_lt.mpr (Int32.le_of_lt h))]
  · rw [if_neg h]
    by_cases h2 : 1 < x
    · rw [if_pos h2]
    · rw [if_neg h2]
      exact Int32.le_antisymm (Int32.not_lt.mp h) (Int32.not_lt.mp h2)
def m_stride (μ : mRow) : Int32 := k_stride (μ 35) (μ 36) (μ 37) (μ 38)
def m_puff (μ : mRow) : Int32 := k_puff (μ 35)
def m_risk (μ : mRow) : Int32 := if μ 35 = 4 ∨ μ 35 = 6 then (5 * μ 38 + 3 * μ 39 + m_stride μ) / 2 else 5 * μ 38 + 3 * μ 39 + m_stride μ
def m_riskNow (μ : mRow) : Int32 := m_risk μ + (if μ 43 < m_puff μ then 20 else 0)
def m_starts (μ : mRow) : mRow := upd (upd (upd (upd (upd μ 42 (μ 40)) 43 (μ 5)) 44 0) 45 0) 46 0
def m_falls (μ : mRow) : mRow := upd (upd μ 45 (μ 3)) 46 (μ 46 + 1)
def m_rests (μ : mRow) : mRow :=
  let μ := upd μ 45 (μ 45 - 1)
  let μ := upd μ 43 (if 60 < μ 43 + 2 then 60 else μ 43 + 2)
  if μ 41 = 1 then upd μ 42 (μ 42 + 1) else μ
def m_puffs (μ : mRow) : mRow :=
  let μ := upd μ 43 ((if m_puff μ < μ 43 then μ 43 - m_puff μ else 0) + 1)
  upd μ 43 (if 60 < μ 43 then 60 else μ 43)
def m_sec (μ : mRow) : mRow :=
  if 0 < μ 45 then m_rests μ else
    let μ := upd μ 44 (μ 44 + m_riskNow μ)
    let μ := m_puffs μ
    if 100 ≤ μ 44 then m_falls (upd μ 44 (μ 44 - 100)) else upd μ 42 (μ 42 + m_stride μ)
def m_rope (μ : mRow) (n : Int32) : Int32 :=
  if 999 < n + (if μ 37 < μ 4 then μ 4 - μ 37 else 0) then 999 else n + (if μ 37 < μ 4 then μ 4 - μ 37 else 0)

set_option maxHeartbeats 1000000 in
theorem ok_X4_strideOf (d : Nat) (I : mI) (L : mL) (w : Nat) (hw : mm_sh[w]? = some (0, 0)) (s : Int32) (hk : isKd (I w 0)) : mm_Call (d + 1) 24 [.ref w, .int s] (mm_sh, mm_R, I, L) (some (.int (k_stride (I w 0) (I w 1) (I w 2) s))) (mm_sh, mm_R, I, L) := by
  refine mm_Call.of_go (d := d + 0) me_24 ⟨Nat.le_of_ble_eq_true rfl, rfl⟩ ?_
  show mm_Go mm_cs0 _ _ _ _ _ _ [some (.ref _), some (.int _)] [] _ _ _
  refine go_aload_n dX4_strideOf_0 rfl ?_
  refine go_gi dX4_strideOf_1 mf_4_78 (by decide) (by first | rfl | assumption | (simp only [*]; done)) ?_
  rcases hk with hs | hs | hs | hs | hs | hs | hs
  · refine go_ts (t := 105) dX4_strideOf_4 (by rw [hs]; rfl) (by decide) ?_
    refine go_aload_n dX4_strideOf_105 rfl ?_
    refine go_gi dX4_strideOf_106 mf_4_59 (by decide) (by first | rfl | assumption | (simp only [*]; done)) ?_
    refine go_iret dX4_strideOf_109 rfl ?_ ?_
    · first | rfl | (simp [k_stride, k_max1_a, mm_u_sr, sr_same, sr_sr, up_s, up_o, *]; done) | ((try simp [mm_u_sr, sr_same, sr_sr, up_s, up_o, -Int32.not_lt, -Int32.not_le] at *) <;> simp [k_stride, k_max1_a, mm_u_sr, sr_same, sr_sr, up_s, up_o, *, -Int32.not_lt, -Int32.not_le]; done) | (simp_all [k_stride, k_max1_a, mm_u_sr, sr_same, sr_sr, up_s, up_o]; done)
    · first | rfl | (simp [k_stride, k_max1_a, mm_u_sr, sr_same, sr_sr, up_s, up_o, *]; done) | ((try simp [mm_u_sr, sr_same, sr_sr, up_s, up_o, -Int32.not_lt, -Int32.not_le] at *) <;> simp [k_stride, k_max1_a, mm_u_sr, sr_same, sr_sr, up_s, up_o, *, -Int32.not_lt, -Int32.not_le]; done) | (simp_all [k_stride, k_max1_a, mm_u_sr, sr_same, sr_sr, up_s, up_o]; done)
  · refine go_ts (t := 44) dX4_strideOf_4 (by rw [hs]; rfl) (by decide) ?_
    refine go_pu (st' := .int (1) :: _) dX4_strideOf_44 rfl ?_
    refine go_aload_n dX4_strideOf_45 rfl ?_
    refine go_gi dX4_strideOf_46 mf_4_59 (by decide) (by first | rfl | assumption | (simp only [*]; done)) ?_
    refine go_pu (st' := .int (1) :: _) dX4_strideOf_49 rfl ?_
    refine go_pu (st' := .int _ :: _) dX4_strideOf_50 rfl ?_
    refine go_bi (kind := 0) (args := [.int _, .int _]) (rest := _) dX4_strideOf_51 (Or.inl ⟨rfl, rfl⟩) mk_4_104 (by decide) rfl rfl rfl rfl rfl rfl ?_
    refine go_iret dX4_strideOf_54 rfl ?_ ?_
    · first | rfl | (simp [k_stride, k_max1_a, mm_u_sr, sr_same, sr_sr, up_s, up_o, *]; done) | ((try simp [mm_u_sr, sr_same, sr_sr, up_s, up_o, -Int32.not_lt, -Int32.not_le] at *) <;> simp [k_stride, k_max1_a, mm_u_sr, sr_same, sr_sr, up_s, up_o, *, -Int32.not_lt, -Int32.not_le]; done) | (simp_all [k_stride, k_max1_a, mm_u_sr, sr_same, sr_sr, up_s, up_o]; done)
    · first | rfl | (simp [k_stride, k_max1_a, mm_u_sr, sr_same, sr_sr, up_s, up_o, *]; done) | ((try simp [mm_u_sr, sr_same, sr_sr, up_s, up_o, -Int32.not_lt, -Int32.not_le] at *) <;> simp [k_stride, k_max1_a, mm_u_sr, sr_same, sr_sr, up_s, up_o, *, -Int32.not_lt, -Int32.not_le]; done) | (simp_all [k_stride, k_max1_a, mm_u_sr, sr_same, sr_sr, up_s, up_o]; done)
  · refine go_ts (t := 55) dX4_strideOf_4 (by rw [hs]; rfl) (by decide) ?_
    refine go_aload_n dX4_strideOf_55 rfl ?_
    refine go_gi dX4_strideOf_56 mf_4_59 (by decide) (by first | rfl | assumption | (simp only [*]; done)) ?_
    refine go_pu (st' := .int (2) :: _) dX4_strideOf_59 rfl ?_
    refine go_pu (st' := .int _ :: _) dX4_strideOf_60 rfl ?_
    refine go_iret dX4_strideOf_61 rfl ?_ ?_
    · first | rfl | (simp [k_stride, k_max1_a, mm_u_sr, sr_same, sr_sr, up_s, up_o, *]; done) | ((try simp [mm_u_sr, sr_same, sr_sr, up_s, up_o, -Int32.not_lt, -Int32.not_le] at *) <;> simp [k_stride, k_max1_a, mm_u_sr, sr_same, sr_sr, up_s, up_o, *, -Int32.not_lt, -Int32.not_le]; done) | (simp_all [k_stride, k_max1_a, mm_u_sr, sr_same, sr_sr, up_s, up_o]; done)
    · first | rfl | (simp [k_stride, k_max1_a, mm_u_sr, sr_same, sr_sr, up_s, up_o, *]; done) | ((try simp [mm_u_sr, sr_same, sr_sr, up_s, up_o, -Int32.not_lt, -Int32.not_le] at *) <;> simp [k_stride, k_max1_a, mm_u_sr, sr_same, sr_sr, up_s, up_o, *, -Int32.not_lt, -Int32.not_le]; done) | (simp_all [k_stride, k_max1_a, mm_u_sr, sr_same, sr_sr, up_s, up_o]; done)
  · refine go_ts (t := 62) dX4_strideOf_4 (by rw [hs]; rfl) (by decide) ?_
    refine go_aload_n dX4_strideOf_62 rfl ?_
    refine go_gi dX4_strideOf_63 mf_4_59 (by decide) (by first | rfl | assumption | (simp only [*]; done)) ?_
    refine go_pu (st' := .int (1) :: _) dX4_strideOf_66 rfl ?_
    refine go_pu (st' := .int _ :: _) dX4_strideOf_67 rfl ?_
    refine go_pu (st' := .int (2) :: _) dX4_strideOf_68 rfl ?_
    refine go_pu (st' := .int _ :: _) dX4_strideOf_69 rfl ?_
    refine go_iret dX4_strideOf_70 rfl ?_ ?_
    · first | rfl | (simp [k_stride, k_max1_a, mm_u_sr, sr_same, sr_sr, up_s, up_o, *]; done) | ((try simp [mm_u_sr, sr_same, sr_sr, up_s, up_o, -Int32.not_lt, -Int32.not_le] at *) <;> simp [k_stride, k_max1_a, mm_u_sr, sr_same, sr_sr, up_s, up_o, *, -Int32.not_lt, -Int32.not_le]; done) | (simp_all [k_stride, k_max1_a, mm_u_sr, sr_same, sr_sr, up_s, up_o]; done)
    · first | rfl | (simp [k_stride, k_max1_a, mm_u_sr, sr_same, sr_sr, up_s, up_o, *]; done) | ((try simp [mm_u_sr, sr_same, sr_sr, up_s, up_o, -Int32.not_lt, -Int32.not_le] at *) <;> simp [k_stride, k_max1_a, mm_u_sr, sr_same, sr_sr, up_s, up_o, *, -Int32.not_lt, -Int32.not_le]; done) | (simp_all [k_stride, k_max1_a, mm_u_sr, sr_same, sr_sr, up_s, up_o]; done)
  · refine go_ts (t := 71) dX4_strideOf_4 (by rw [hs]; rfl) (by decide) ?_
    refine go_pu (st' := .int (1) :: _) dX4_strideOf_71 rfl ?_
    refine go_aload_n dX4_strideOf_72 rfl ?_
    refine go_gi dX4_strideOf_73 mf_4_59 (by decide) (by first | rfl | assumption | (simp only [*]; done)) ?_
    refine go_pu (st' := .int (1) :: _) dX4_strideOf_76 rfl ?_
    refine go_pu (st' := .int _ :: _) dX4_strideOf_77 rfl ?_
    refine go_iload_n dX4_strideOf_78 rfl ?_
    refine go_pu (st' := .int _ :: _) dX4_strideOf_79 rfl ?_
    refine go_bi (kind := 0) (args := [.int _, .int _]) (rest := _) dX4_strideOf_80 (Or.inl ⟨rfl, rfl⟩) mk_4_104 (by decide) rfl rfl rfl rfl rfl rfl ?_
    refine go_iret dX4_strideOf_83 rfl ?_ ?_
    · first | rfl | (simp [k_stride, k_max1_a, mm_u_sr, sr_same, sr_sr, up_s, up_o, *]; done) | ((try simp [mm_u_sr, sr_same, sr_sr, up_s, up_o, -Int32.not_lt, -Int32.not_le] at *) <;> simp [k_stride, k_max1_a, mm_u_sr, sr_same, sr_sr, up_s, up_o, *, -Int32.not_lt, -Int32.not_le]; done) | (simp_all [k_stride, k_max1_a, mm_u_sr, sr_same, sr_sr, up_s, up_o]; done)
    · first | rfl | (simp [k_stride, k_max1_a, mm_u_sr, sr_same, sr_sr, up_s, up_o, *]; done) | ((try simp [mm_u_sr, sr_same, sr_sr, up_s, up_o, -Int32.not_lt, -Int32.not_le] at *) <;> simp [k_stride, k_max1_a, mm_u_sr, sr_same, sr_sr, up_s, up_o, *, -Int32.not_lt, -Int32.not_le]; done) | (simp_all [k_stride, k_max1_a, mm_u_sr, sr_same, sr_sr, up_s, up_o]; done)
  · refine go_ts (t := 84) dX4_strideOf_4 (by rw [hs]; rfl) (by decide) ?_
    refine go_aload_n dX4_strideOf_84 rfl ?_
    refine go_gi dX4_strideOf_85 mf_4_59 (by decide) (by first | rfl | assumption | (simp only [*]; done)) ?_
    refine go_aload_n dX4_strideOf_88 rfl ?_
    refine go_gi dX4_strideOf_89 mf_4_132 (by decide) (by first | rfl | assumption | (simp only [*]; done)) ?_
    refine go_pu (st' := .int _ :: _) dX4_strideOf_92 rfl ?_
    refine go_iret dX4_strideOf_93 rfl ?_ ?_
    · first | rfl | (simp [k_stride, k_max1_a, mm_u_sr, sr_same, sr_sr, up_s, up_o, *]; done) | ((try simp [mm_u_sr, sr_same, sr_sr, up_s, up_o, -Int32.not_lt, -Int32.not_le] at *) <;> simp [k_stride, k_max1_a, mm_u_sr, sr_same, sr_sr, up_s, up_o, *, -Int32.not_lt, -Int32.not_le]; done) | (simp_all [k_stride, k_max1_a, mm_u_sr, sr_same, sr_sr, up_s, up_o]; done)
    · first | rfl | (simp [k_stride, k_max1_a, mm_u_sr, sr_same, sr_sr, up_s, up_o, *]; done) | ((try simp [mm_u_sr, sr_same, sr_sr, up_s, up_o, -Int32.not_lt, -Int32.not_le] at *) <;> simp [k_stride, k_max1_a, mm_u_sr, sr_same, sr_sr, up_s, up_o, *, -Int32.not_lt, -Int32.not_le]; done) | (simp_all [k_stride, k_max1_a, mm_u_sr, sr_same, sr_sr, up_s, up_o]; done)
  · refine go_ts (t := 94) dX4_strideOf_4 (by rw [hs]; rfl) (by decide) ?_
    refine go_pu (st' := .int (1) :: _) dX4_strideOf_94 rfl ?_
    refine go_aload_n dX4_strideOf_95 rfl ?_
    refine go_gi dX4_strideOf_96 mf_4_59 (by decide) (by first | rfl | assumption | (simp only [*]; done)) ?_
    refine go_iload_n dX4_strideOf_99 rfl ?_
    refine go_pu (st' := .int _ :: _) dX4_strideOf_100 rfl ?_
    refine go_bi (kind := 0) (args := [.int _, .int _]) (rest := _) dX4_strideOf_101 (Or.inl ⟨rfl, rfl⟩) mk_4_104 (by decide) rfl rfl rfl rfl rfl rfl ?_
    refine go_iret dX4_strideOf_104 rfl ?_ ?_
    · first | rfl | (simp [k_stride, k_max1_a, mm_u_sr, sr_same, sr_sr, up_s, up_o, *]; done) | ((try simp [mm_u_sr, sr_same, sr_sr, up_s, up_o, -Int32.not_lt, -Int32.not_le] at *) <;> simp [k_stride, k_max1_a, mm_u_sr, sr_same, sr_sr, up_s, up_o, *, -Int32.not_lt, -Int32.not_le]; done) | (simp_all [k_stride, k_max1_a, mm_u_sr, sr_same, sr_sr, up_s, up_o]; done)
    · first | rfl | (simp [k_stride, k_max1_a, mm_u_sr, sr_same, sr_sr, up_s, up_o, *]; done) | ((try simp [mm_u_sr, sr_same, sr_sr, up_s, up_o, -Int32.not_lt, -Int32.not_le] at *) <;> simp [k_stride, k_max1_a, mm_u_sr, sr_same, sr_sr, up_s, up_o, *, -Int32.not_lt, -Int32.not_le]; done) | (simp_all [k_stride, k_max1_a, mm_u_sr, sr_same, sr_sr, up_s, up_o]; done)

set_option maxHeartbeats 1000000 in
theorem ok_X4_puffOf (d : Nat) (I : mI) (L : mL) (k : Int32) (hk : isKd k) : mm_Call (d + 1) 25 [.int k] (mm_sh, mm_R, I, L) (some (.int (k_puff k))) (mm_sh, mm_R, I, L) := by
  refine mm_Call.of_go (d := d + 0) me_25 ⟨Nat.le_of_ble_eq_true rfl, rfl⟩ ?_
  show mm_Go mm_cs0 _ _ _ _ _ _ [some (.int _)] [] _ _ _
  refine go_iload_n dX4_puffOf_0 rfl ?_
  rcases hk with hs | hs | hs | hs | hs | hs | hs
  · refine go_ts (t := 46) dX4_puffOf_1 (by rw [hs]; rfl) (by decide) ?_
    refine go_pu (st' := .int (2) :: _) dX4_puffOf_46 rfl ?_
    refine go_iret dX4_puffOf_47 rfl ?_ ?_
    · first | rfl | (simp [k_puff, mm_u_sr, sr_same, sr_sr, up_s, up_o, *]; done) | ((try simp [mm_u_sr, sr_same, sr_sr, up_s, up_o, -Int32.not_lt, -Int32.not_le] at *) <;> simp [k_puff, mm_u_sr, sr_same, sr_sr, up_s, up_o, *, -Int32.not_lt, -Int32.not_le]; done) | (simp_all [k_puff, mm_u_sr, sr_same, sr_sr, up_s, up_o]; done)
    · first | rfl | (simp [k_puff, mm_u_sr, sr_same, sr_sr, up_s, up_o, *]; done) | ((try simp [mm_u_sr, sr_same, sr_sr, up_s, up_o, -Int32.not_lt, -Int32.not_le] at *) <;> simp [k_puff, mm_u_sr, sr_same, sr_sr, up_s, up_o, *, -Int32.not_lt, -Int32.not_le]; done) | (simp_all [k_puff, mm_u_sr, sr_same, sr_sr, up_s, up_o]; done)
  · refine go_ts (t := 36) dX4_puffOf_1 (by rw [hs]; rfl) (by decide) ?_
    refine go_pu (st' := .int (1) :: _) dX4_puffOf_36 rfl ?_
    refine go_iret dX4_puffOf_37 rfl ?_ ?_
    · first | rfl | (simp [k_puff, mm_u_sr, sr_same, sr_sr, up_s, up_o, *]; done) | ((try simp [mm_u_sr, sr_same, sr_sr, up_s, up_o, -Int32.not_lt, -Int32.not_le] at *) <;> simp [k_puff, mm_u_sr, sr_same, sr_sr, up_s, up_o, *, -Int32.not_lt, -Int32.not_le]; done) | (simp_all [k_puff, mm_u_sr, sr_same, sr_sr, up_s, up_o]; done)
    · first | rfl | (simp [k_puff, mm_u_sr, sr_same, sr_sr, up_s, up_o, *]; done) | ((try simp [mm_u_sr, sr_same, sr_sr, up_s, up_o, -Int32.not_lt, -Int32.not_le] at *) <;> simp [k_puff, mm_u_sr, sr_same, sr_sr, up_s, up_o, *, -Int32.not_lt, -Int32.not_le]; done) | (simp_all [k_puff, mm_u_sr, sr_same, sr_sr, up_s, up_o]; done)
  · refine go_ts (t := 38) dX4_puffOf_1 (by rw [hs]; rfl) (by decide) ?_
    refine go_pu (st' := .int (4) :: _) dX4_puffOf_38 rfl ?_
    refine go_iret dX4_puffOf_39 rfl ?_ ?_
    · first | rfl | (simp [k_puff, mm_u_sr, sr_same, sr_sr, up_s, up_o, *]; done) | ((try simp [mm_u_sr, sr_same, sr_sr, up_s, up_o, -Int32.not_lt, -Int32.not_le] at *) <;> simp [k_puff, mm_u_sr, sr_same, sr_sr, up_s, up_o, *, -Int32.not_lt, -Int32.not_le]; done) | (simp_all [k_puff, mm_u_sr, sr_same, sr_sr, up_s, up_o]; done)
    · first | rfl | (simp [k_puff, mm_u_sr, sr_same, sr_sr, up_s, up_o, *]; done) | ((try simp [mm_u_sr, sr_same, sr_sr, up_s, up_o, -Int32.not_lt, -Int32.not_le] at *) <;> simp [k_puff, mm_u_sr, sr_same, sr_sr, up_s, up_o, *, -Int32.not_lt, -Int32.not_le]; done) | (simp_all [k_puff, mm_u_sr, sr_same, sr_sr, up_s, up_o]; done)
  · refine go_ts (t := 40) dX4_puffOf_1 (by rw [hs]; rfl) (by decide) ?_
    refine go_pu (st' := .int (0) :: _) dX4_puffOf_40 rfl ?_
    refine go_iret dX4_puffOf_41 rfl ?_ ?_
    · first | rfl | (simp [k_puff, mm_u_sr, sr_same, sr_sr, up_s, up_o, *]; done) | ((try simp [mm_u_sr, sr_same, sr_sr, up_s, up_o, -Int32.not_lt, -Int32.not_le] at *) <;> simp [k_puff, mm_u_sr, sr_same, sr_sr, up_s, up_o, *, -Int32.not_lt, -Int32.not_le]; done) | (simp_all [k_puff, mm_u_sr, sr_same, sr_sr, up_s, up_o]; done)
    · first | rfl | (simp [k_puff, mm_u_sr, sr_same, sr_sr, up_s, up_o, *]; done) | ((try simp [mm_u_sr, sr_same, sr_sr, up_s, up_o, -Int32.not_lt, -Int32.not_le] at *) <;> simp [k_puff, mm_u_sr, sr_same, sr_sr, up_s, up_o, *, -Int32.not_lt, -Int32.not_le]; done) | (simp_all [k_puff, mm_u_sr, sr_same, sr_sr, up_s, up_o]; done)
  · refine go_ts (t := 42) dX4_puffOf_1 (by rw [hs]; rfl) (by decide) ?_
    refine go_pu (st' := .int (3) :: _) dX4_puffOf_42 rfl ?_
    refine go_iret dX4_puffOf_43 rfl ?_ ?_
    · first | rfl | (simp [k_puff, mm_u_sr, sr_same, sr_sr, up_s, up_o, *]; done) | ((try simp [mm_u_sr, sr_same, sr_sr, up_s, up_o, -Int32.not_lt, -Int32.not_le] at *) <;> simp [k_puff, mm_u_sr, sr_same, sr_sr, up_s, up_o, *, -Int32.not_lt, -Int32.not_le]; done) | (simp_all [k_puff, mm_u_sr, sr_same, sr_sr, up_s, up_o]; done)
    · first | rfl | (simp [k_puff, mm_u_sr, sr_same, sr_sr, up_s, up_o, *]; done) | ((try simp [mm_u_sr, sr_same, sr_sr, up_s, up_o, -Int32.not_lt, -Int32.not_le] at *) <;> simp [k_puff, mm_u_sr, sr_same, sr_sr, up_s, up_o, *, -Int32.not_lt, -Int32.not_le]; done) | (simp_all [k_puff, mm_u_sr, sr_same, sr_sr, up_s, up_o]; done)
  · refine go_ts (t := 44) dX4_puffOf_1 (by rw [hs]; rfl) (by decide) ?_
    refine go_pu (st' := .int (5) :: _) dX4_puffOf_44 rfl ?_
    refine go_iret dX4_puffOf_45 rfl ?_ ?_
    · first | rfl | (simp [k_puff, mm_u_sr, sr_same, sr_sr, up_s, up_o, *]; done) | ((try simp [mm_u_sr, sr_same, sr_sr, up_s, up_o, -Int32.not_lt, -Int32.not_le] at *) <;> simp [k_puff, mm_u_sr, sr_same, sr_sr, up_s, up_o, *, -Int32.not_lt, -Int32.not_le]; done) | (simp_all [k_puff, mm_u_sr, sr_same, sr_sr, up_s, up_o]; done)
    · first | rfl | (simp [k_puff, mm_u_sr, sr_same, sr_sr, up_s, up_o, *]; done) | ((try simp [mm_u_sr, sr_same, sr_sr, up_s, up_o, -Int32.not_lt, -Int32.not_le] at *) <;> simp [k_puff, mm_u_sr, sr_same, sr_sr, up_s, up_o, *, -Int32.not_lt, -Int32.not_le]; done) | (simp_all [k_puff, mm_u_sr, sr_same, sr_sr, up_s, up_o]; done)
  · refine go_ts (t := 46) dX4_puffOf_1 (by rw [hs]; rfl) (by decide) ?_
    refine go_pu (st' := .int (2) :: _) dX4_puffOf_46 rfl ?_
    refine go_iret dX4_puffOf_47 rfl ?_ ?_
    · first | rfl | (simp [k_puff, mm_u_sr, sr_same, sr_sr, up_s, up_o, *]; done) | ((try simp [mm_u_sr, sr_same, sr_sr, up_s, up_o, -Int32.not_lt, -Int32.not_le] at *) <;> simp [k_puff, mm_u_sr, sr_same, sr_sr, up_s, up_o, *, -Int32.not_lt, -Int32.not_le]; done) | (simp_all [k_puff, mm_u_sr, sr_same, sr_sr, up_s, up_o]; done)
    · first | rfl | (simp [k_puff, mm_u_sr, sr_same, sr_sr, up_s, up_o, *]; done) | ((try simp [mm_u_sr, sr_same, sr_sr, up_s, up_o, -Int32.not_lt, -Int32.not_le] at *) <;> simp [k_puff, mm_u_sr, sr_same, sr_sr, up_s, up_o, *, -Int32.not_lt, -Int32.not_le]; done) | (simp_all [k_puff, mm_u_sr, sr_same, sr_sr, up_s, up_o]; done)

set_option maxHeartbeats 1000000 in
theorem ok_X9_stride (d : Nat) (I : mI) (L : mL) (hk : isKd (I 108 35)) : mm_Call (d + 2) 169 [.ref 108] (mm_sh, mm_R, I, L) (some (.int (m_stride (I 108)))) (mm_sh, mm_R, I, L) := by
  refine mm_Call.of_go (d := d + 1) me_169 ⟨Nat.le_of_ble_eq_true rfl, rfl⟩ ?_
  show mm_Go mm_cs0 _ _ _ _ _ _ [some (.ref _)] [] _ _ _
  refine go_aload_n dX9_stride_0 rfl ?_
  refine go_gi dX9_stride_1 mf_9_224 (by decide) (by first | rfl | assumption | (simp only [*]; done)) ?_
  rcases hk with hs | hs | hs | hs | hs | hs | hs
  · refine go_ts (t := 111) dX9_stride_4 (by rw [hs]; rfl) (by decide) ?_
    refine go_aload_n dX9_stride_111 rfl ?_
    refine go_gi dX9_stride_112 mf_9_230 (by decide) (by first | rfl | assumption | (simp only [*]; done)) ?_
    refine go_iret dX9_stride_115 rfl ?_ ?_
    · first | rfl | (simp [m_stride, k_stride, k_max1, mm_u_sr, sr_same, sr_sr, up_s, up_o, *]; done) | ((try simp [mm_u_sr, sr_same, sr_sr, up_s, up_o, -Int32.not_lt, -Int32.not_le] at *) <;> simp [m_stride, k_stride, k_max1, mm_u_sr, sr_same, sr_sr, up_s, up_o, *, -Int32.not_lt, -Int32.not_le]; done) | (simp_all [m_stride, k_stride, k_max1, mm_u_sr, sr_same, sr_sr, up_s, up_o]; done)
    · first | rfl | (simp [m_stride, k_stride, k_max1, mm_u_sr, sr_same, sr_sr, up_s, up_o, *]; done) | ((try simp [mm_u_sr, sr_same, sr_sr, up_s, up_o, -Int32.not_lt, -Int32.not_le] at *) <;> simp [m_stride, k_stride, k_max1, mm_u_sr, sr_same, sr_sr, up_s, up_o, *, -Int32.not_lt, -Int32.not_le]; done) | (simp_all [m_stride, k_stride, k_max1, mm_u_sr, sr_same, sr_sr, up_s, up_o]; done)
  · refine go_ts (t := 44) dX9_stride_4 (by rw [hs]; rfl) (by decide) ?_
    refine go_aload_n dX9_stride_44 rfl ?_
    refine go_aload_n dX9_stride_45 rfl ?_
    refine go_gi dX9_stride_46 mf_9_230 (by decide) (by first | rfl | assumption | (simp only [*]; done)) ?_
    refine go_pu (st' := .int (1) :: _) dX9_stride_49 rfl ?_
    refine go_pu (st' := .int _ :: _) dX9_stride_50 rfl ?_
    refine go_call (kind := 1) (args := [.ref _, .int _]) (rest := _) dX9_stride_51 (Or.inr (Or.inl ⟨rfl, rfl⟩)) mk_9_251 (by decide) me_168 rfl rfl rfl rfl rfl (mm_rc_of (by first | rfl | assumption | (simp only [*]; done))) (ok_X9_one _ _ _ _) rfl ?_
    refine go_iret dX9_stride_54 rfl ?_ ?_
    · first | rfl | (simp [m_stride, k_stride, k_max1, mm_u_sr, sr_same, sr_sr, up_s, up_o, *]; done) | ((try simp [mm_u_sr, sr_same, sr_sr, up_s, up_o, -Int32.not_lt, -Int32.not_le] at *) <;> simp [m_stride, k_stride, k_max1, mm_u_sr, sr_same, sr_sr, up_s, up_o, *, -Int32.not_lt, -Int32.not_le]; done) | (simp_all [m_stride, k_stride, k_max1, mm_u_sr, sr_same, sr_sr, up_s, up_o]; done)
    · first | rfl | (simp [m_stride, k_stride, k_max1, mm_u_sr, sr_same, sr_sr, up_s, up_o, *]; done) | ((try simp [mm_u_sr, sr_same, sr_sr, up_s, up_o, -Int32.not_lt, -Int32.not_le] at *) <;> simp [m_stride, k_stride, k_max1, mm_u_sr, sr_same, sr_sr, up_s, up_o, *, -Int32.not_lt, -Int32.not_le]; done) | (simp_all [m_stride, k_stride, k_max1, mm_u_sr, sr_same, sr_sr, up_s, up_o]; done)
  · refine go_ts (t := 55) dX9_stride_4 (by rw [hs]; rfl) (by decide) ?_
    refine go_aload_n dX9_stride_55 rfl ?_
    refine go_gi dX9_stride_56 mf_9_230 (by decide) (by first | rfl | assumption | (simp only [*]; done)) ?_
    refine go_pu (st' := .int (2) :: _) dX9_stride_59 rfl ?_
    refine go_pu (st' := .int _ :: _) dX9_stride_60 rfl ?_
    refine go_iret dX9_stride_61 rfl ?_ ?_
    · first | rfl | (simp [m_stride, k_stride, k_max1, mm_u_sr, sr_same, sr_sr, up_s, up_o, *]; done) | ((try simp [mm_u_sr, sr_same, sr_sr, up_s, up_o, -Int32.not_lt, -Int32.not_le] at *) <;> simp [m_stride, k_stride, k_max1, mm_u_sr, sr_same, sr_sr, up_s, up_o, *, -Int32.not_lt, -Int32.not_le]; done) | (simp_all [m_stride, k_stride, k_max1, mm_u_sr, sr_same, sr_sr, up_s, up_o]; done)
    · first | rfl | (simp [m_stride, k_stride, k_max1, mm_u_sr, sr_same, sr_sr, up_s, up_o, *]; done) | ((try simp [mm_u_sr, sr_same, sr_sr, up_s, up_o, -Int32.not_lt, -Int32.not_le] at *) <;> simp [m_stride, k_stride, k_max1, mm_u_sr, sr_same, sr_sr, up_s, up_o, *, -Int32.not_lt, -Int32.not_le]; done) | (simp_all [m_stride, k_stride, k_max1, mm_u_sr, sr_same, sr_sr, up_s, up_o]; done)
  · refine go_ts (t := 62) dX9_stride_4 (by rw [hs]; rfl) (by decide) ?_
    refine go_aload_n dX9_stride_62 rfl ?_
    refine go_gi dX9_stride_63 mf_9_230 (by decide) (by first | rfl | assumption | (simp only [*]; done)) ?_
    refine go_pu (st' := .int (1) :: _) dX9_stride_66 rfl ?_
    refine go_pu (st' := .int _ :: _) dX9_stride_67 rfl ?_
    refine go_pu (st' := .int (2) :: _) dX9_stride_68 rfl ?_
    refine go_pu (st' := .int _ :: _) dX9_stride_69 rfl ?_
    refine go_iret dX9_stride_70 rfl ?_ ?_
    · first | rfl | (simp [m_stride, k_stride, k_max1, mm_u_sr, sr_same, sr_sr, up_s, up_o, *]; done) | ((try simp [mm_u_sr, sr_same, sr_sr, up_s, up_o, -Int32.not_lt, -Int32.not_le] at *) <;> simp [m_stride, k_stride, k_max1, mm_u_sr, sr_same, sr_sr, up_s, up_o, *, -Int32.not_lt, -Int32.not_le]; done) | (simp_all [m_stride, k_stride, k_max1, mm_u_sr, sr_same, sr_sr, up_s, up_o]; done)
    · first | rfl | (simp [m_stride, k_stride, k_max1, mm_u_sr, sr_same, sr_sr, up_s, up_o, *]; done) | ((try simp [mm_u_sr, sr_same, sr_sr, up_s, up_o, -Int32.not_lt, -Int32.not_le] at *) <;> simp [m_stride, k_stride, k_max1, mm_u_sr, sr_same, sr_sr, up_s, up_o, *, -Int32.not_lt, -Int32.not_le]; done) | (simp_all [m_stride, k_stride, k_max1, mm_u_sr, sr_same, sr_sr, up_s, up_o]; done)
  · refine go_ts (t := 71) dX9_stride_4 (by rw [hs]; rfl) (by decide) ?_
    refine go_aload_n dX9_stride_71 rfl ?_
    refine go_aload_n dX9_stride_72 rfl ?_
    refine go_gi dX9_stride_73 mf_9_230 (by decide) (by first | rfl | assumption | (simp only [*]; done)) ?_
    refine go_pu (st' := .int (1) :: _) dX9_stride_76 rfl ?_
    refine go_pu (st' := .int _ :: _) dX9_stride_77 rfl ?_
    refine go_aload_n dX9_stride_78 rfl ?_
    refine go_gi dX9_stride_79 mf_9_245 (by decide) (by first | rfl | assumption | (simp only [*]; done)) ?_
    refine go_pu (st' := .int _ :: _) dX9_stride_82 rfl ?_
    refine go_call (kind := 1) (args := [.ref _, .int _]) (rest := _) dX9_stride_83 (Or.inr (Or.inl ⟨rfl, rfl⟩)) mk_9_251 (by decide) me_168 rfl rfl rfl rfl rfl (mm_rc_of (by first | rfl | assumption | (simp only [*]; done))) (ok_X9_one _ _ _ _) rfl ?_
    refine go_iret dX9_stride_86 rfl ?_ ?_
    · first | rfl | (simp [m_stride, k_stride, k_max1, mm_u_sr, sr_same, sr_sr, up_s, up_o, *]; done) | ((try simp [mm_u_sr, sr_same, sr_sr, up_s, up_o, -Int32.not_lt, -Int32.not_le] at *) <;> simp [m_stride, k_stride, k_max1, mm_u_sr, sr_same, sr_sr, up_s, up_o, *, -Int32.not_lt, -Int32.not_le]; done) | (simp_all [m_stride, k_stride, k_max1, mm_u_sr, sr_same, sr_sr, up_s, up_o]; done)
    · first | rfl | (simp [m_stride, k_stride, k_max1, mm_u_sr, sr_same, sr_sr, up_s, up_o, *]; done) | ((try simp [mm_u_sr, sr_same, sr_sr, up_s, up_o, -Int32.not_lt, -Int32.not_le] at *) <;> simp [m_stride, k_stride, k_max1, mm_u_sr, sr_same, sr_sr, up_s, up_o, *, -Int32.not_lt, -Int32.not_le]; done) | (simp_all [m_stride, k_stride, k_max1, mm_u_sr, sr_same, sr_sr, up_s, up_o]; done)
  · refine go_ts (t := 87) dX9_stride_4 (by rw [hs]; rfl) (by decide) ?_
    refine go_aload_n dX9_stride_87 rfl ?_
    refine go_gi dX9_stride_88 mf_9_230 (by decide) (by first | rfl | assumption | (simp only [*]; done)) ?_
    refine go_aload_n dX9_stride_91 rfl ?_
    refine go_gi dX9_stride_92 mf_9_227 (by decide) (by first | rfl | assumption | (simp only [*]; done)) ?_
    refine go_pu (st' := .int _ :: _) dX9_stride_95 rfl ?_
    refine go_iret dX9_stride_96 rfl ?_ ?_
    · first | rfl | (simp [m_stride, k_stride, k_max1, mm_u_sr, sr_same, sr_sr, up_s, up_o, *]; done) | ((try simp [mm_u_sr, sr_same, sr_sr, up_s, up_o, -Int32.not_lt, -Int32.not_le] at *) <;> simp [m_stride, k_stride, k_max1, mm_u_sr, sr_same, sr_sr, up_s, up_o, *, -Int32.not_lt, -Int32.not_le]; done) | (simp_all [m_stride, k_stride, k_max1, mm_u_sr, sr_same, sr_sr, up_s, up_o]; done)
    · first | rfl | (simp [m_stride, k_stride, k_max1, mm_u_sr, sr_same, sr_sr, up_s, up_o, *]; done) | ((try simp [mm_u_sr, sr_same, sr_sr, up_s, up_o, -Int32.not_lt, -Int32.not_le] at *) <;> simp [m_stride, k_stride, k_max1, mm_u_sr, sr_same, sr_sr, up_s, up_o, *, -Int32.not_lt, -Int32.not_le]; done) | (simp_all [m_stride, k_stride, k_max1, mm_u_sr, sr_same, sr_sr, up_s, up_o]; done)
  · refine go_ts (t := 97) dX9_stride_4 (by rw [hs]; rfl) (by decide) ?_
    refine go_aload_n dX9_stride_97 rfl ?_
    refine go_aload_n dX9_stride_98 rfl ?_
    refine go_gi dX9_stride_99 mf_9_230 (by decide) (by first | rfl | assumption | (simp only [*]; done)) ?_
    refine go_aload_n dX9_stride_102 rfl ?_
    refine go_gi dX9_stride_103 mf_9_245 (by decide) (by first | rfl | assumption | (simp only [*]; done)) ?_
    refine go_pu (st' := .int _ :: _) dX9_stride_106 rfl ?_
    refine go_call (kind := 1) (args := [.ref _, .int _]) (rest := _) dX9_stride_107 (Or.inr (Or.inl ⟨rfl, rfl⟩)) mk_9_251 (by decide) me_168 rfl rfl rfl rfl rfl (mm_rc_of (by first | rfl | assumption | (simp only [*]; done))) (ok_X9_one _ _ _ _) rfl ?_
    refine go_iret dX9_stride_110 rfl ?_ ?_
    · first | rfl | (simp [m_stride, k_stride, k_max1, mm_u_sr, sr_same, sr_sr, up_s, up_o, *]; done) | ((try simp [mm_u_sr, sr_same, sr_sr, up_s, up_o, -Int32.not_lt, -Int32.not_le] at *) <;> simp [m_stride, k_stride, k_max1, mm_u_sr, sr_same, sr_sr, up_s, up_o, *, -Int32.not_lt, -Int32.not_le]; done) | (simp_all [m_stride, k_stride, k_max1, mm_u_sr, sr_same, sr_sr, up_s, up_o]; done)
    · first | rfl | (simp [m_stride, k_stride, k_max1, mm_u_sr, sr_same, sr_sr, up_s, up_o, *]; done) | ((try simp [mm_u_sr, sr_same, sr_sr, up_s, up_o, -Int32.not_lt, -Int32.not_le] at *) <;> simp [m_stride, k_stride, k_max1, mm_u_sr, sr_same, sr_sr, up_s, up_o, *, -Int32.not_lt, -Int32.not_le]; done) | (simp_all [m_stride, k_stride, k_max1, mm_u_sr, sr_same, sr_sr, up_s, up_o]; done)

set_option maxHeartbeats 1000000 in
theorem ok_X9_puff (d : Nat) (I : mI) (L : mL) (hk : isKd (I 108 35)) : mm_Call (d + 1) 170 [.ref 108] (mm_sh, mm_R, I, L) (some (.int (m_puff (I 108)))) (mm_sh, mm_R, I, L) := by
  refine mm_Call.of_go (d := d + 0) me_170 ⟨Nat.le_of_ble_eq_true rfl, rfl⟩ ?_
  show mm_Go mm_cs0 _ _ _ _ _ _ [some (.ref _)] [] _ _ _
  refine go_aload_n dX9_puff_0 rfl ?_
  refine go_gi dX9_puff_1 mf_9_224 (by decide) (by first | rfl | assumption | (simp only [*]; done)) ?_
  rcases hk with hs | hs | hs | hs | hs | hs | hs
  · refine go_ts (t := 50) dX9_puff_4 (by rw [hs]; rfl) (by decide) ?_
    refine go_pu (st' := .int (2) :: _) dX9_puff_50 rfl ?_
    refine go_iret dX9_puff_51 rfl ?_ ?_
    · first | rfl | (simp [m_puff, k_puff, mm_u_sr, sr_same, sr_sr, up_s, up_o, *]; done) | ((try simp [mm_u_sr, sr_same, sr_sr, up_s, up_o, -Int32.not_lt, -Int32.not_le] at *) <;> simp [m_puff, k_puff, mm_u_sr, sr_same, sr_sr, up_s, up_o, *, -Int32.not_lt, -Int32.not_le]; done) | (simp_all [m_puff, k_puff, mm_u_sr, sr_same, sr_sr, up_s, up_o]; done)
    · first | rfl | (simp [m_puff, k_puff, mm_u_sr, sr_same, sr_sr, up_s, up_o, *]; done) | ((try simp [mm_u_sr, sr_same, sr_sr, up_s, up_o, -Int32.not_lt, -Int32.not_le] at *) <;> simp [m_puff, k_puff, mm_u_sr, sr_same, sr_sr, up_s, up_o, *, -Int32.not_lt, -Int32.not_le]; done) | (simp_all [m_puff, k_puff, mm_u_sr, sr_same, sr_sr, up_s, up_o]; done)
  · refine go_ts (t := 40) dX9_puff_4 (by rw [hs]; rfl) (by decide) ?_
    refine go_pu (st' := .int (1) :: _) dX9_puff_40 rfl ?_
    refine go_iret dX9_puff_41 rfl ?_ ?_
    · first | rfl | (simp [m_puff, k_puff, mm_u_sr, sr_same, sr_sr, up_s, up_o, *]; done) | ((try simp [mm_u_sr, sr_same, sr_sr, up_s, up_o, -Int32.not_lt, -Int32.not_le] at *) <;> simp [m_puff, k_puff, mm_u_sr, sr_same, sr_sr, up_s, up_o, *, -Int32.not_lt, -Int32.not_le]; done) | (simp_all [m_puff, k_puff, mm_u_sr, sr_same, sr_sr, up_s, up_o]; done)
    · first | rfl | (simp [m_puff, k_puff, mm_u_sr, sr_same, sr_sr, up_s, up_o, *]; done) | ((try simp [mm_u_sr, sr_same, sr_sr, up_s, up_o, -Int32.not_lt, -Int32.not_le] at *) <;> simp [m_puff, k_puff, mm_u_sr, sr_same, sr_sr, up_s, up_o, *, -Int32.not_lt, -Int32.not_le]; done) | (simp_all [m_puff, k_puff, mm_u_sr, sr_same, sr_sr, up_s, up_o]; done)
  · refine go_ts (t := 42) dX9_puff_4 (by rw [hs]; rfl) (by decide) ?_
    refine go_pu (st' := .int (4) :: _) dX9_puff_42 rfl ?_
    refine go_iret dX9_puff_43 rfl ?_ ?_
    · first | rfl | (simp [m_puff, k_puff, mm_u_sr, sr_same, sr_sr, up_s, up_o, *]; done) | ((try simp [mm_u_sr, sr_same, sr_sr, up_s, up_o, -Int32.not_lt, -Int32.not_le] at *) <;> simp [m_puff, k_puff, mm_u_sr, sr_same, sr_sr, up_s, up_o, *, -Int32.not_lt, -Int32.not_le]; done) | (simp_all [m_puff, k_puff, mm_u_sr, sr_same, sr_sr, up_s, up_o]; done)
    · first | rfl | (simp [m_puff, k_puff, mm_u_sr, sr_same, sr_sr, up_s, up_o, *]; done) | ((try simp [mm_u_sr, sr_same, sr_sr, up_s, up_o, -Int32.not_lt, -Int32.not_le] at *) <;> simp [m_puff, k_puff, mm_u_sr, sr_same, sr_sr, up_s, up_o, *, -Int32.not_lt, -Int32.not_le]; done) | (simp_all [m_puff, k_puff, mm_u_sr, sr_same, sr_sr, up_s, up_o]; done)
  · refine go_ts (t := 44) dX9_puff_4 (by rw [hs]; rfl) (by decide) ?_
    refine go_pu (st' := .int (0) :: _) dX9_puff_44 rfl ?_
    refine go_iret dX9_puff_45 rfl ?_ ?_
    · first | rfl | (simp [m_puff, k_puff, mm_u_sr, sr_same, sr_sr, up_s, up_o, *]; done) | ((try simp [mm_u_sr, sr_same, sr_sr, up_s, up_o, -Int32.not_lt, -Int32.not_le] at *) <;> simp [m_puff, k_puff, mm_u_sr, sr_same, sr_sr, up_s, up_o, *, -Int32.not_lt, -Int32.not_le]; done) | (simp_all [m_puff, k_puff, mm_u_sr, sr_same, sr_sr, up_s, up_o]; done)
    · first | rfl | (simp [m_puff, k_puff, mm_u_sr, sr_same, sr_sr, up_s, up_o, *]; done) | ((try simp [mm_u_sr, sr_same, sr_sr, up_s, up_o, -Int32.not_lt, -Int32.not_le] at *) <;> simp [m_puff, k_puff, mm_u_sr, sr_same, sr_sr, up_s, up_o, *, -Int32.not_lt, -Int32.not_le]; done) | (simp_all [m_puff, k_puff, mm_u_sr, sr_same, sr_sr, up_s, up_o]; done)
  · refine go_ts (t := 46) dX9_puff_4 (by rw [hs]; rfl) (by decide) ?_
    refine go_pu (st' := .int (3) :: _) dX9_puff_46 rfl ?_
    refine go_iret dX9_puff_47 rfl ?_ ?_
    · first | rfl | (simp [m_puff, k_puff, mm_u_sr, sr_same, sr_sr, up_s, up_o, *]; done) | ((try simp [mm_u_sr, sr_same, sr_sr, up_s, up_o, -Int32.not_lt, -Int32.not_le] at *) <;> simp [m_puff, k_puff, mm_u_sr, sr_same, sr_sr, up_s, up_o, *, -Int32.not_lt, -Int32.not_le]; done) | (simp_all [m_puff, k_puff, mm_u_sr, sr_same, sr_sr, up_s, up_o]; done)
    · first | rfl | (simp [m_puff, k_puff, mm_u_sr, sr_same, sr_sr, up_s, up_o, *]; done) | ((try simp [mm_u_sr, sr_same, sr_sr, up_s, up_o, -Int32.not_lt, -Int32.not_le] at *) <;> simp [m_puff, k_puff, mm_u_sr, sr_same, sr_sr, up_s, up_o, *, -Int32.not_lt, -Int32.not_le]; done) | (simp_all [m_puff, k_puff, mm_u_sr, sr_same, sr_sr, up_s, up_o]; done)
  · refine go_ts (t := 48) dX9_puff_4 (by rw [hs]; rfl) (by decide) ?_
    refine go_pu (st' := .int (5) :: _) dX9_puff_48 rfl ?_
    refine go_iret dX9_puff_49 rfl ?_ ?_
    · first | rfl | (simp [m_puff, k_puff, mm_u_sr, sr_same, sr_sr, up_s, up_o, *]; done) | ((try simp [mm_u_sr, sr_same, sr_sr, up_s, up_o, -Int32.not_lt, -Int32.not_le] at *) <;> simp [m_puff, k_puff, mm_u_sr, sr_same, sr_sr, up_s, up_o, *, -Int32.not_lt, -Int32.not_le]; done) | (simp_all [m_puff, k_puff, mm_u_sr, sr_same, sr_sr, up_s, up_o]; done)
    · first | rfl | (simp [m_puff, k_puff, mm_u_sr, sr_same, sr_sr, up_s, up_o, *]; done) | ((try simp [mm_u_sr, sr_same, sr_sr, up_s, up_o, -Int32.not_lt, -Int32.not_le] at *) <;> simp [m_puff, k_puff, mm_u_sr, sr_same, sr_sr, up_s, up_o, *, -Int32.not_lt, -Int32.not_le]; done) | (simp_all [m_puff, k_puff, mm_u_sr, sr_same, sr_sr, up_s, up_o]; done)
  · refine go_ts (t := 50) dX9_puff_4 (by rw [hs]; rfl) (by decide) ?_
    refine go_pu (st' := .int (2) :: _) dX9_puff_50 rfl ?_
    refine go_iret dX9_puff_51 rfl ?_ ?_
    · first | rfl | (simp [m_puff, k_puff, mm_u_sr, sr_same, sr_sr, up_s, up_o, *]; done) | ((try simp [mm_u_sr, sr_same, sr_sr, up_s, up_o, -Int32.not_lt, -Int32.not_le] at *) <;> simp [m_puff, k_puff, mm_u_sr, sr_same, sr_sr, up_s, up_o, *, -Int32.not_lt, -Int32.not_le]; done) | (simp_all [m_puff, k_puff, mm_u_sr, sr_same, sr_sr, up_s, up_o]; done)
    · first | rfl | (simp [m_puff, k_puff, mm_u_sr, sr_same, sr_sr, up_s, up_o, *]; done) | ((try simp [mm_u_sr, sr_same, sr_sr, up_s, up_o, -Int32.not_lt, -Int32.not_le] at *) <;> simp [m_puff, k_puff, mm_u_sr, sr_same, sr_sr, up_s, up_o, *, -Int32.not_lt, -Int32.not_le]; done) | (simp_all [m_puff, k_puff, mm_u_sr, sr_same, sr_sr, up_s, up_o]; done)

set_option maxHeartbeats 1000000 in
theorem ok_X9_risk (d : Nat) (I : mI) (L : mL) (hk : isKd (I 108 35)) : mm_Call (d + 3) 171 [.ref 108] (mm_sh, mm_R, I, L) (some (.int (m_risk (I 108)))) (mm_sh, mm_R, I, L) := by
  refine mm_Call.of_go (d := d + 2) me_171 ⟨Nat.le_of_ble_eq_true rfl, rfl⟩ ?_
  show mm_Go mm_cs0 _ _ _ _ _ _ [some (.ref _), none] [] _ _ _
  refine go_pu (st' := .int (5) :: _) dX9_risk_0 rfl ?_
  refine go_aload_n dX9_risk_1 rfl ?_
  refine go_gi dX9_risk_2 mf_9_245 (by decide) (by first | rfl | assumption | (simp only [*]; done)) ?_
  refine go_pu (st' := .int _ :: _) dX9_risk_5 rfl ?_
  refine go_pu (st' := .int (3) :: _) dX9_risk_6 rfl ?_
  refine go_aload_n dX9_risk_7 rfl ?_
  refine go_gi dX9_risk_8 mf_9_248 (by decide) (by first | rfl | assumption | (simp only [*]; done)) ?_
  refine go_pu (st' := .int _ :: _) dX9_risk_11 rfl ?_
  refine go_pu (st' := .int _ :: _) dX9_risk_12 rfl ?_
  refine go_aload_n dX9_risk_13 rfl ?_
  refine go_call (kind := 1) (args := [.ref _]) (rest := _) dX9_risk_14 (Or.inr (Or.inl ⟨rfl, rfl⟩)) mk_9_142 (by decide) me_169 rfl rfl rfl rfl rfl (mm_rc_of (by first | rfl | assumption | (simp only [*]; done))) (ok_X9_stride _ _ _ hk) rfl ?_
  refine go_pu (st' := .int _ :: _) dX9_risk_17 rfl ?_
  refine go_istore_n (ls' := [some (.ref _), some (.int _)]) dX9_risk_18 rfl (Nat.le_of_ble_eq_true rfl) ?_
  refine go_aload_n dX9_risk_19 rfl ?_
  refine go_gi dX9_risk_20 mf_9_224 (by decide) (by first | rfl | assumption | (simp only [*]; done)) ?_
  refine go_pu (st' := .int (4) :: _) dX9_risk_23 rfl ?_
  refine go_icc (t := 36) dX9_risk_24 (by decide) c2_eq (fun h1 => ?_) (fun h1 => ?_)
  · refine go_iload_n dX9_risk_36 rfl ?_
    refine go_pu (st' := .int (2) :: _) dX9_risk_37 rfl ?_
    refine go_pu (st' := .int _ :: _) dX9_risk_38 rfl ?_
    refine go_goto (t := 43) dX9_risk_39 (by decide) ?_
    refine go_iret dX9_risk_43 rfl ?_ ?_
    · first | rfl | (simp [m_risk, mm_u_sr, sr_same, sr_sr, up_s, up_o, *]; done) | ((try simp [mm_u_sr, sr_same, sr_sr, up_s, up_o, -Int32.not_lt, -Int32.not_le] at *) <;> simp [m_risk, mm_u_sr, sr_same, sr_sr, up_s, up_o, *, -Int32.not_lt, -Int32.not_le]; done) | (simp_all [m_risk, mm_u_sr, sr_same, sr_sr, up_s, up_o]; done)
    · first | rfl | (simp [m_risk, mm_u_sr, sr_same, sr_sr, up_s, up_o, *]; done) | ((try simp [mm_u_sr, sr_same, sr_sr, up_s, up_o, -Int32.not_lt, -Int32.not_le] at *) <;> simp [m_risk, mm_u_sr, sr_same, sr_sr, up_s, up_o, *, -Int32.not_lt, -Int32.not_le]; done) | (simp_all [m_risk, mm_u_sr, sr_same, sr_sr, up_s, up_o]; done)
  · refine go_aload_n dX9_risk_27 rfl ?_
    refine go_gi dX9_risk_28 mf_9_224 (by decide) (by first | rfl | assumption | (simp only [*]; done)) ?_
    refine go_pu (st' := .int (6) :: _) dX9_risk_31 rfl ?_
    refine go_icc (t := 42) dX9_risk_33 (by decide) c2_ne (fun h2 => ?_) (fun h2 => ?_)
    · refine go_iload_n dX9_risk_42 rfl ?_
      refine go_iret dX9_risk_43 rfl ?_ ?_
      · first | rfl | (simp [m_risk, mm_u_sr, sr_same, sr_sr, up_s, up_o, *]; done) | ((try simp [mm_u_sr, sr_same, sr_sr, up_s, up_o, -Int32.not_lt, -Int32.not_le] at *) <;> simp [m_risk, mm_u_sr, sr_same, sr_sr, up_s, up_o, *, -Int32.not_lt, -Int32.not_le]; done) | (simp_all [m_risk, mm_u_sr, sr_same, sr_sr, up_s, up_o]; done)
      · first | rfl | (simp [m_risk, mm_u_sr, sr_same, sr_sr, up_s, up_o, *]; done) | ((try simp [mm_u_sr, sr_same, sr_sr, up_s, up_o, -Int32.not_lt, -Int32.not_le] at *) <;> simp [m_risk, mm_u_sr, sr_same, sr_sr, up_s, up_o, *, -Int32.not_lt, -Int32.not_le]; done) | (simp_all [m_risk, mm_u_sr, sr_same, sr_sr, up_s, up_o]; done)
    · refine go_iload_n dX9_risk_36 rfl ?_
      refine go_pu (st' := .int (2) :: _) dX9_risk_37 rfl ?_
      refine go_pu (st' := .int _ :: _) dX9_risk_38 rfl ?_
      refine go_goto (t := 43) dX9_risk_39 (by decide) ?_
      refine go_iret dX9_risk_43 rfl ?_ ?_
      · first | rfl | (simp [m_risk, mm_u_sr, sr_same, sr_sr, up_s, up_o, *]; done) | ((try simp [mm_u_sr, sr_same, sr_sr, up_s, up_o, -Int32.not_lt, -Int32.not_le] at *) <;> simp [m_risk, mm_u_sr, sr_same, sr_sr, up_s, up_o, *, -Int32.not_lt, -Int32.not_le]; done) | (simp_all [m_risk, mm_u_sr, sr_same, sr_sr, up_s, up_o]; done)
      · first | rfl | (simp [m_risk, mm_u_sr, sr_same, sr_sr, up_s, up_o, *]; done) | ((try simp [mm_u_sr, sr_same, sr_sr, up_s, up_o, -Int32.not_lt, -Int32.not_le] at *) <;> simp [m_risk, mm_u_sr, sr_same, sr_sr, up_s, up_o, *, -Int32.not_lt, -Int32.not_le]; done) | (simp_all [m_risk, mm_u_sr, sr_same, sr_sr, up_s, up_o]; done)

set_option maxHeartbeats 1000000 in
theorem ok_X9_riskNow (d : Nat) (I : mI) (L : mL) (hk : isKd (I 108 35)) : mm_Call (d + 4) 172 [.ref 108] (mm_sh, mm_R, I, L) (some (.int (m_riskNow (I 108)))) (mm_sh, mm_R, I, L) := by
  refine mm_Call.of_go (d := d + 3) me_172 ⟨Nat.le_of_ble_eq_true rfl, rfl⟩ ?_
  show mm_Go mm_cs0 _ _ _ _ _ _ [some (.ref _)] [] _ _ _
  refine go_aload_n dX9_riskNow_0 rfl ?_
  refine go_call (kind := 1) (args := [.ref _]) (rest := _) dX9_riskNow_1 (Or.inr (Or.inl ⟨rfl, rfl⟩)) mk_9_145 (by decide) me_171 rfl rfl rfl rfl rfl (mm_rc_of (by first | rfl | assumption | (simp only [*]; done))) (ok_X9_risk _ _ _ hk) rfl ?_
  refine go_aload_n dX9_riskNow_4 rfl ?_
  refine go_gi dX9_riskNow_5 mf_9_254 (by decide) (by first | rfl | assumption | (simp only [*]; done)) ?_
  refine go_aload_n dX9_riskNow_8 rfl ?_
  refine go_call (kind := 1) (args := [.ref _]) (rest := _) dX9_riskNow_9 (Or.inr (Or.inl ⟨rfl, rfl⟩)) mk_9_138 (by decide) me_170 rfl rfl rfl rfl rfl (mm_rc_of (by first | rfl | assumption | (simp only [*]; done))) (ok_X9_puff _ _ _ hk) rfl ?_
  refine go_icc (t := 20) dX9_riskNow_12 (by decide) c2_ge (fun h1 => ?_) (fun h1 => ?_)
  · have h1' := Int32.not_lt.mpr h1
    refine go_pu (st' := .int (0) :: _) dX9_riskNow_20 rfl ?_
    refine go_pu (st' := .int _ :: _) dX9_riskNow_21 rfl ?_
    refine go_iret dX9_riskNow_22 rfl ?_ ?_
    · first | rfl | (simp [m_riskNow, mm_u_sr, sr_same, sr_sr, up_s, up_o, *]; done) | ((try simp [mm_u_sr, sr_same, sr_sr, up_s, up_o, -Int32.not_lt, -Int32.not_le] at *) <;> simp [m_riskNow, mm_u_sr, sr_same, sr_sr, up_s, up_o, *, -Int32.not_lt, -Int32.not_le]; done) | (simp_all [m_riskNow, mm_u_sr, sr_same, sr_sr, up_s, up_o]; done)
    · first | rfl | (simp [m_riskNow, mm_u_sr, sr_same, sr_sr, up_s, up_o, *]; done) | ((try simp [mm_u_sr, sr_same, sr_sr, up_s, up_o, -Int32.not_lt, -Int32.not_le] at *) <;> simp [m_riskNow, mm_u_sr, sr_same, sr_sr, up_s, up_o, *, -Int32.not_lt, -Int32.not_le]; done) | (simp_all [m_riskNow, mm_u_sr, sr_same, sr_sr, up_s, up_o]; done)
  · have h1' := Int32.not_le.mp h1
    refine go_pu (st' := .int (20) :: _) dX9_riskNow_15 rfl ?_
    refine go_goto (t := 21) dX9_riskNow_17 (by decide) ?_
    refine go_pu (st' := .int _ :: _) dX9_riskNow_21 rfl ?_
    refine go_iret dX9_riskNow_22 rfl ?_ ?_
    · first | rfl | (simp [m_riskNow, mm_u_sr, sr_same, sr_sr, up_s, up_o, *]; done) | ((try simp [mm_u_sr, sr_same, sr_sr, up_s, up_o, -Int32.not_lt, -Int32.not_le] at *) <;> simp [m_riskNow, mm_u_sr, sr_same, sr_sr, up_s, up_o, *, -Int32.not_lt, -Int32.not_le]; done) | (simp_all [m_riskNow, mm_u_sr, sr_same, sr_sr, up_s, up_o]; done)
    · first | rfl | (simp [m_riskNow, mm_u_sr, sr_same, sr_sr, up_s, up_o, *]; done) | ((try simp [mm_u_sr, sr_same, sr_sr, up_s, up_o, -Int32.not_lt, -Int32.not_le] at *) <;> simp [m_riskNow, mm_u_sr, sr_same, sr_sr, up_s, up_o, *, -Int32.not_lt, -Int32.not_le]; done) | (simp_all [m_riskNow, mm_u_sr, sr_same, sr_sr, up_s, up_o]; done)

set_option maxHeartbeats 1000000 in
theorem ok_X9_starts (d : Nat) (I : mI) (L : mL) : mm_Call (d + 1) 173 [.ref 108] (mm_sh, mm_R, I, L) none (mm_sh, mm_R, (sr I 108 (m_starts (I 108))), L) := by
  refine mm_Call.of_go (d := d + 0) me_173 ⟨Nat.le_of_ble_eq_true rfl, rfl⟩ ?_
  show mm_Go mm_cs0 _ _ _ _ _ _ [some (.ref _)] [] _ _ _
  refine go_aload_n dX9_starts_0 rfl ?_
  refine go_aload_n dX9_starts_1 rfl ?_
  refine go_gi dX9_starts_2 mf_9_233 (by decide) (by first | rfl | assumption | (simp only [*]; done)) ?_
  refine go_pi dX9_starts_5 mf_9_257 rfl rfl (by first | rfl | assumption | (simp only [*]; done)) ?_
  refine go_aload_n dX9_starts_8 rfl ?_
  refine go_aload_n dX9_starts_9 rfl ?_
  refine go_gi dX9_starts_10 mf_9_19 (by decide) (by first | rfl | assumption | (simp only [*]; done)) ?_
  refine go_pi dX9_starts_13 mf_9_254 rfl rfl (by first | rfl | assumption | (simp only [*]; done)) ?_
  refine go_aload_n dX9_starts_16 rfl ?_
  refine go_pu (st' := .int (0) :: _) dX9_starts_17 rfl ?_
  refine go_pi dX9_starts_18 mf_9_260 rfl rfl (by first | rfl | assumption | (simp only [*]; done)) ?_
  refine go_aload_n dX9_starts_21 rfl ?_
  refine go_pu (st' := .int (0) :: _) dX9_starts_22 rfl ?_
  refine go_pi dX9_starts_23 mf_9_263 rfl rfl (by first | rfl | assumption | (simp only [*]; done)) ?_
  refine go_aload_n dX9_starts_26 rfl ?_
  refine go_pu (st' := .int (0) :: _) dX9_starts_27 rfl ?_
  refine go_pi dX9_starts_28 mf_9_266 rfl rfl (by first | rfl | assumption | (simp only [*]; done)) ?_
  refine go_vret dX9_starts_31 rfl ?_ ?_
  · first | rfl | (simp [m_starts, mm_u_sr, sr_same, sr_sr, up_s, up_o, *]; done) | ((try simp [mm_u_sr, sr_same, sr_sr, up_s, up_o, -Int32.not_lt, -Int32.not_le] at *) <;> simp [m_starts, mm_u_sr, sr_same, sr_sr, up_s, up_o, *, -Int32.not_lt, -Int32.not_le]; done) | (simp_all [m_starts, mm_u_sr, sr_same, sr_sr, up_s, up_o]; done)
  · first | rfl | (simp [m_starts, mm_u_sr, sr_same, sr_sr, up_s, up_o, *]; done) | ((try simp [mm_u_sr, sr_same, sr_sr, up_s, up_o, -Int32.not_lt, -Int32.not_le] at *) <;> simp [m_starts, mm_u_sr, sr_same, sr_sr, up_s, up_o, *, -Int32.not_lt, -Int32.not_le]; done) | (simp_all [m_starts, mm_u_sr, sr_same, sr_sr, up_s, up_o]; done)

set_option maxHeartbeats 1000000 in
theorem ok_X9_falls (d : Nat) (I : mI) (L : mL) : mm_Call (d + 1) 174 [.ref 108] (mm_sh, mm_R, I, L) none (mm_sh, mm_R, (sr I 108 (m_falls (I 108))), L) := by
  refine mm_Call.of_go (d := d + 0) me_174 ⟨Nat.le_of_ble_eq_true rfl, rfl⟩ ?_
  show mm_Go mm_cs0 _ _ _ _ _ _ [some (.ref _)] [] _ _ _
  refine go_aload_n dX9_falls_0 rfl ?_
  refine go_aload_n dX9_falls_1 rfl ?_
  refine go_gi dX9_falls_2 mf_9_13 (by decide) (by first | rfl | assumption | (simp only [*]; done)) ?_
  refine go_pi dX9_falls_5 mf_9_263 rfl rfl (by first | rfl | assumption | (simp only [*]; done)) ?_
  refine go_aload_n dX9_falls_8 rfl ?_
  refine go_pu dX9_falls_9 rfl ?_
  refine go_gi dX9_falls_10 mf_9_266 (by decide) (by first | rfl | assumption | (simp only [*]; done)) ?_
  refine go_pu (st' := .int (1) :: _) dX9_falls_13 rfl ?_
  refine go_pu (st' := .int _ :: _) dX9_falls_14 rfl ?_
  refine go_pi dX9_falls_15 mf_9_266 rfl rfl (by first | rfl | assumption | (simp only [*]; done)) ?_
  refine go_vret dX9_falls_18 rfl ?_ ?_
  · first | rfl | (simp [m_falls, mm_u_sr, sr_same, sr_sr, up_s, up_o, *]; done) | ((try simp [mm_u_sr, sr_same, sr_sr, up_s, up_o, -Int32.not_lt, -Int32.not_le] at *) <;> simp [m_falls, mm_u_sr, sr_same, sr_sr, up_s, up_o, *, -Int32.not_lt, -Int32.not_le]; done) | (simp_all [m_falls, mm_u_sr, sr_same, sr_sr, up_s, up_o]; done)
  · first | rfl | (simp [m_falls, mm_u_sr, sr_same, sr_sr, up_s, up_o, *]; done) | ((try simp [mm_u_sr, sr_same, sr_sr, up_s, up_o, -Int32.not_lt, -Int32.not_le] at *) <;> simp [m_falls, mm_u_sr, sr_same, sr_sr, up_s, up_o, *, -Int32.not_lt, -Int32.not_le]; done) | (simp_all [m_falls, mm_u_sr, sr_same, sr_sr, up_s, up_o]; done)

set_option maxHeartbeats 1000000 in
theorem ok_X9_rests (d : Nat) (I : mI) (L : mL) : mm_Call (d + 1) 175 [.ref 108] (mm_sh, mm_R, I, L) none (mm_sh, mm_R, (sr I 108 (m_rests (I 108))), L) := by
  refine mm_Call.of_go (d := d + 0) me_175 ⟨Nat.le_of_ble_eq_true rfl, rfl⟩ ?_
  show mm_Go mm_cs0 _ _ _ _ _ _ [some (.ref _)] [] _ _ _
  refine go_aload_n dX9_rests_0 rfl ?_
  refine go_pu dX9_rests_1 rfl ?_
  refine go_gi dX9_rests_2 mf_9_263 (by decide) (by first | rfl | assumption | (simp only [*]; done)) ?_
  refine go_pu (st' := .int (1) :: _) dX9_rests_5 rfl ?_
  refine go_pu (st' := .int _ :: _) dX9_rests_6 rfl ?_
  refine go_pi dX9_rests_7 mf_9_263 rfl rfl (by first | rfl | assumption | (simp only [*]; done)) ?_
  refine go_aload_n dX9_rests_10 rfl ?_
  refine go_aload_n dX9_rests_11 rfl ?_
  refine go_gi dX9_rests_12 mf_9_254 (by decide) (by first | rfl | assumption | (simp only [*]; done)) ?_
  refine go_pu (st' := .int (2) :: _) dX9_rests_15 rfl ?_
  refine go_pu (st' := .int _ :: _) dX9_rests_16 rfl ?_
  refine go_pu (st' := .int (60) :: _) dX9_rests_17 rfl ?_
  refine go_icc (t := 27) dX9_rests_19 (by decide) c2_le (fun h1 => ?_) (fun h1 => ?_)
  · have h1' := Int32.not_lt.mpr h1
    refine go_aload_n dX9_rests_27 rfl ?_
    refine go_gi dX9_rests_28 mf_9_254 (by decide) (by first | rfl | assumption | (simp only [*]; done)) ?_
    refine go_pu (st' := .int (2) :: _) dX9_rests_31 rfl ?_
    refine go_pu (st' := .int _ :: _) dX9_rests_32 rfl ?_
    refine go_pi dX9_rests_33 mf_9_254 rfl rfl (by first | rfl | assumption | (simp only [*]; done)) ?_
    refine go_aload_n dX9_rests_36 rfl ?_
    refine go_gi dX9_rests_37 mf_9_236 (by decide) (by first | rfl | assumption | (simp only [*]; done)) ?_
    refine go_pu (st' := .int (1) :: _) dX9_rests_40 rfl ?_
    refine go_icc (t := 54) dX9_rests_41 (by decide) c2_ne (fun h2 => ?_) (fun h2 => ?_)
    · refine go_vret dX9_rests_54 rfl ?_ ?_
      · first | rfl | (simp [m_rests, mm_u_sr, sr_same, sr_sr, up_s, up_o, *]; done) | ((try simp [mm_u_sr, sr_same, sr_sr, up_s, up_o, -Int32.not_lt, -Int32.not_le] at *) <;> simp [m_rests, mm_u_sr, sr_same, sr_sr, up_s, up_o, *, -Int32.not_lt, -Int32.not_le]; done) | (simp_all [m_rests, mm_u_sr, sr_same, sr_sr, up_s, up_o]; done)
      · first | rfl | (simp [m_rests, mm_u_sr, sr_same, sr_sr, up_s, up_o, *]; done) | ((try simp [mm_u_sr, sr_same, sr_sr, up_s, up_o, -Int32.not_lt, -Int32.not_le] at *) <;> simp [m_rests, mm_u_sr, sr_same, sr_sr, up_s, up_o, *, -Int32.not_lt, -Int32.not_le]; done) | (simp_all [m_rests, mm_u_sr, sr_same, sr_sr, up_s, up_o]; done)
    · refine go_aload_n dX9_rests_44 rfl ?_
      refine go_pu dX9_rests_45 rfl ?_
      refine go_gi dX9_rests_46 mf_9_257 (by decide) (by first | rfl | assumption | (simp only [*]; done)) ?_
      refine go_pu (st' := .int (1) :: _) dX9_rests_49 rfl ?_
      refine go_pu (st' := .int _ :: _) dX9_rests_50 rfl ?_
      refine go_pi dX9_rests_51 mf_9_257 rfl rfl (by first | rfl | assumption | (simp only [*]; done)) ?_
      refine go_vret dX9_rests_54 rfl ?_ ?_
      · first | rfl | (simp [m_rests, mm_u_sr, sr_same, sr_sr, up_s, up_o, *]; done) | ((try simp [mm_u_sr, sr_same, sr_sr, up_s, up_o, -Int32.not_lt, -Int32.not_le] at *) <;> simp [m_rests, mm_u_sr, sr_same, sr_sr, up_s, up_o, *, -Int32.not_lt, -Int32.not_le]; done) | (simp_all [m_rests, mm_u_sr, sr_same, sr_sr, up_s, up_o]; done)
      · first | rfl | (simp [m_rests, mm_u_sr, sr_same, sr_sr, up_s, up_o, *]; done) | ((try simp [mm_u_sr, sr_same, sr_sr, up_s, up_o, -Int32.not_lt, -Int32.not_le] at *) <;> simp [m_rests, mm_u_sr, sr_same, sr_sr, up_s, up_o, *, -Int32.not_lt, -Int32.not_le]; done) | (simp_all [m_rests, mm_u_sr, sr_same, sr_sr, up_s, up_o]; done)
  · have h1' := Int32.not_le.mp h1
    refine go_pu (st' := .int (60) :: _) dX9_rests_22 rfl ?_
    refine go_goto (t := 33) dX9_rests_24 (by decide) ?_
    refine go_pi dX9_rests_33 mf_9_254 rfl rfl (by first | rfl | assumption | (simp only [*]; done)) ?_
    refine go_aload_n dX9_rests_36 rfl ?_
    refine go_gi dX9_rests_37 mf_9_236 (by decide) (by first | rfl | assumption | (simp only [*]; done)) ?_
    refine go_pu (st' := .int (1) :: _) dX9_rests_40 rfl ?_
    refine go_icc (t := 54) dX9_rests_41 (by decide) c2_ne (fun h3 => ?_) (fun h3 => ?_)
    · refine go_vret dX9_rests_54 rfl ?_ ?_
      · first | rfl | (simp [m_rests, mm_u_sr, sr_same, sr_sr, up_s, up_o, *]; done) | ((try simp [mm_u_sr, sr_same, sr_sr, up_s, up_o, -Int32.not_lt, -Int32.not_le] at *) <;> simp [m_rests, mm_u_sr, sr_same, sr_sr, up_s, up_o, *, -Int32.not_lt, -Int32.not_le]; done) | (simp_all [m_rests, mm_u_sr, sr_same, sr_sr, up_s, up_o]; done)
      · first | rfl | (simp [m_rests, mm_u_sr, sr_same, sr_sr, up_s, up_o, *]; done) | ((try simp [mm_u_sr, sr_same, sr_sr, up_s, up_o, -Int32.not_lt, -Int32.not_le] at *) <;> simp [m_rests, mm_u_sr, sr_same, sr_sr, up_s, up_o, *, -Int32.not_lt, -Int32.not_le]; done) | (simp_all [m_rests, mm_u_sr, sr_same, sr_sr, up_s, up_o]; done)
    · refine go_aload_n dX9_rests_44 rfl ?_
      refine go_pu dX9_rests_45 rfl ?_
      refine go_gi dX9_rests_46 mf_9_257 (by decide) (by first | rfl | assumption | (simp only [*]; done)) ?_
      refine go_pu (st' := .int (1) :: _) dX9_rests_49 rfl ?_
      refine go_pu (st' := .int _ :: _) dX9_rests_50 rfl ?_
      refine go_pi dX9_rests_51 mf_9_257 rfl rfl (by first | rfl | assumption | (simp only [*]; done)) ?_
      refine go_vret dX9_rests_54 rfl ?_ ?_
      · first | rfl | (simp [m_rests, mm_u_sr, sr_same, sr_sr, up_s, up_o, *]; done) | ((try simp [mm_u_sr, sr_same, sr_sr, up_s, up_o, -Int32.not_lt, -Int32.not_le] at *) <;> simp [m_rests, mm_u_sr, sr_same, sr_sr, up_s, up_o, *, -Int32.not_lt, -Int32.not_le]; done) | (simp_all [m_rests, mm_u_sr, sr_same, sr_sr, up_s, up_o]; done)
      · first | rfl | (simp [m_rests, mm_u_sr, sr_same, sr_sr, up_s, up_o, *]; done) | ((try simp [mm_u_sr, sr_same, sr_sr, up_s, up_o, -Int32.not_lt, -Int32.not_le] at *) <;> simp [m_rests, mm_u_sr, sr_same, sr_sr, up_s, up_o, *, -Int32.not_lt, -Int32.not_le]; done) | (simp_all [m_rests, mm_u_sr, sr_same, sr_sr, up_s, up_o]; done)

set_option maxHeartbeats 1000000 in
theorem ok_X9_withRope (d : Nat) (I : mI) (L : mL) (n : Int32) : mm_Call (d + 1) 178 [.ref 108, .int n] (mm_sh, mm_R, I, L) (some (.int (m_rope (I 108) n))) (mm_sh, mm_R, I, L) := by
  refine mm_Call.of_go (d := d + 0) me_178 ⟨Nat.le_of_ble_eq_true rfl, rfl⟩ ?_
  show mm_Go mm_cs0 _ _ _ _ _ _ [some (.ref _), some (.int _), none] [] _ _ _
  refine go_iload_n dX9_withRope_0 rfl ?_
  refine go_aload_n dX9_withRope_1 rfl ?_
  refine go_gi dX9_withRope_2 mf_9_16 (by decide) (by first | rfl | assumption | (simp only [*]; done)) ?_
  refine go_aload_n dX9_withRope_5 rfl ?_
  refine go_gi dX9_withRope_6 mf_9_230 (by decide) (by first | rfl | assumption | (simp only [*]; done)) ?_
  refine go_icc (t := 24) dX9_withRope_9 (by decide) c2_le (fun h1 => ?_) (fun h1 => ?_)
  · have h1' := Int32.not_lt.mpr h1
    refine go_pu (st' := .int (0) :: _) dX9_withRope_24 rfl ?_
    refine go_pu (st' := .int _ :: _) dX9_withRope_25 rfl ?_
    refine go_istore_n (ls' := [some (.ref _), some (.int _), some (.int _)]) dX9_withRope_26 rfl (Nat.le_of_ble_eq_true rfl) ?_
    refine go_iload_n dX9_withRope_27 rfl ?_
    refine go_pu (st' := .int (999) :: _) dX9_withRope_28 rfl ?_
    refine go_icc (t := 40) dX9_withRope_31 (by decide) c2_le (fun h2 => ?_) (fun h2 => ?_)
    · have h2' := Int32.not_lt.mpr h2
      refine go_iload_n dX9_withRope_40 rfl ?_
      refine go_iret dX9_withRope_41 rfl ?_ ?_
      · first | rfl | (simp [m_rope, mm_u_sr, sr_same, sr_sr, up_s, up_o, *]; done) | ((try simp [mm_u_sr, sr_same, sr_sr, up_s, up_o, -Int32.not_lt, -Int32.not_le] at *) <;> simp [m_rope, mm_u_sr, sr_same, sr_sr, up_s, up_o, *, -Int32.not_lt, -Int32.not_le]; done) | (simp_all [m_rope, mm_u_sr, sr_same, sr_sr, up_s, up_o]; done)
      · first | rfl | (simp [m_rope, mm_u_sr, sr_same, sr_sr, up_s, up_o, *]; done) | ((try simp [mm_u_sr, sr_same, sr_sr, up_s, up_o, -Int32.not_lt, -Int32.not_le] at *) <;> simp [m_rope, mm_u_sr, sr_same, sr_sr, up_s, up_o, *, -Int32.not_lt, -Int32.not_le]; done) | (simp_all [m_rope, mm_u_sr, sr_same, sr_sr, up_s, up_o]; done)
    · have h2' := Int32.not_le.mp h2
      refine go_pu (st' := .int (999) :: _) dX9_withRope_34 rfl ?_
      refine go_goto (t := 41) dX9_withRope_37 (by decide) ?_
      refine go_iret dX9_withRope_41 rfl ?_ ?_
      · first | rfl | (simp [m_rope, mm_u_sr, sr_same, sr_sr, up_s, up_o, *]; done) | ((try simp [mm_u_sr, sr_same, sr_sr, up_s, up_o, -Int32.not_lt, -Int32.not_le] at *) <;> simp [m_rope, mm_u_sr, sr_same, sr_sr, up_s, up_o, *, -Int32.not_lt, -Int32.not_le]; done) | (simp_all [m_rope, mm_u_sr, sr_same, sr_sr, up_s, up_o]; done)
      · first | rfl | (simp [m_rope, mm_u_sr, sr_same, sr_sr, up_s, up_o, *]; done) | ((try simp [mm_u_sr, sr_same, sr_sr, up_s, up_o, -Int32.not_lt, -Int32.not_le] at *) <;> simp [m_rope, mm_u_sr, sr_same, sr_sr, up_s, up_o, *, -Int32.not_lt, -Int32.not_le]; done) | (simp_all [m_rope, mm_u_sr, sr_same, sr_sr, up_s, up_o]; done)
  · have h1' := Int32.not_le.mp h1
    refine go_aload_n dX9_withRope_12 rfl ?_
    refine go_gi dX9_withRope_13 mf_9_16 (by decide) (by first | rfl | assumption | (simp only [*]; done)) ?_
    refine go_aload_n dX9_withRope_16 rfl ?_
    refine go_gi dX9_withRope_17 mf_9_230 (by decide) (by first | rfl | assumption | (simp only [*]; done)) ?_
    refine go_pu (st' := .int _ :: _) dX9_withRope_20 rfl ?_
    refine go_goto (t := 25) dX9_withRope_21 (by decide) ?_
    refine go_pu (st' := .int _ :: _) dX9_withRope_25 rfl ?_
    refine go_istore_n (ls' := [some (.ref _), some (.int _), some (.int _)]) dX9_withRope_26 rfl (Nat.le_of_ble_eq_true rfl) ?_
    refine go_iload_n dX9_withRope_27 rfl ?_
    refine go_pu (st' := .int (999) :: _) dX9_withRope_28 rfl ?_
    refine go_icc (t := 40) dX9_withRope_31 (by decide) c2_le (fun h3 => ?_) (fun h3 => ?_)
    · have h3' := Int32.not_lt.mpr h3
      refine go_iload_n dX9_withRope_40 rfl ?_
      refine go_iret dX9_withRope_41 rfl ?_ ?_
      · first | rfl | (simp [m_rope, mm_u_sr, sr_same, sr_sr, up_s, up_o, *]; done) | ((try simp [mm_u_sr, sr_same, sr_sr, up_s, up_o, -Int32.not_lt, -Int32.not_le] at *) <;> simp [m_rope, mm_u_sr, sr_same, sr_sr, up_s, up_o, *, -Int32.not_lt, -Int32.not_le]; done) | (simp_all [m_rope, mm_u_sr, sr_same, sr_sr, up_s, up_o]; done)
      · first | rfl | (simp [m_rope, mm_u_sr, sr_same, sr_sr, up_s, up_o, *]; done) | ((try simp [mm_u_sr, sr_same, sr_sr, up_s, up_o, -Int32.not_lt, -Int32.not_le] at *) <;> simp [m_rope, mm_u_sr, sr_same, sr_sr, up_s, up_o, *, -Int32.not_lt, -Int32.not_le]; done) | (simp_all [m_rope, mm_u_sr, sr_same, sr_sr, up_s, up_o]; done)
    · have h3' := Int32.not_le.mp h3
      refine go_pu (st' := .int (999) :: _) dX9_withRope_34 rfl ?_
      refine go_goto (t := 41) dX9_withRope_37 (by decide) ?_
      refine go_iret dX9_withRope_41 rfl ?_ ?_
      · first | rfl | (simp [m_rope, mm_u_sr, sr_same, sr_sr, up_s, up_o, *]; done) | ((try simp [mm_u_sr, sr_same, sr_sr, up_s, up_o, -Int32.not_lt, -Int32.not_le] at *) <;> simp [m_rope, mm_u_sr, sr_same, sr_sr, up_s, up_o, *, -Int32.not_lt, -Int32.not_le]; done) | (simp_all [m_rope, mm_u_sr, sr_same, sr_sr, up_s, up_o]; done)
      · first | rfl | (simp [m_rope, mm_u_sr, sr_same, sr_sr, up_s, up_o, *]; done) | ((try simp [mm_u_sr, sr_same, sr_sr, up_s, up_o, -Int32.not_lt, -Int32.not_le] at *) <;> simp [m_rope, mm_u_sr, sr_same, sr_sr, up_s, up_o, *, -Int32.not_lt, -Int32.not_le]; done) | (simp_all [m_rope, mm_u_sr, sr_same, sr_sr, up_s, up_o]; done)

set_option maxHeartbeats 1000000 in
theorem ok_X9_puffs (d : Nat) (I : mI) (L : mL) (hk : isKd (I 108 35)) : mm_Call (d + 2) 176 [.ref 108] (mm_sh, mm_R, I, L) none (mm_sh, mm_R, (sr I 108 (m_puffs (I 108))), L) := by
  refine mm_Call.of_go (d := d + 1) me_176 ⟨Nat.le_of_ble_eq_true rfl, rfl⟩ ?_
  show mm_Go mm_cs0 _ _ _ _ _ _ [some (.ref _)] [] _ _ _
  refine go_aload_n dX9_puffs_0 rfl ?_
  refine go_aload_n dX9_puffs_1 rfl ?_
  refine go_gi dX9_puffs_2 mf_9_254 (by decide) (by first | rfl | assumption | (simp only [*]; done)) ?_
  refine go_aload_n dX9_puffs_5 rfl ?_
  refine go_call (kind := 1) (args := [.ref _]) (rest := _) dX9_puffs_6 (Or.inr (Or.inl ⟨rfl, rfl⟩)) mk_9_138 (by decide) me_170 rfl rfl rfl rfl rfl (mm_rc_of (by first | rfl | assumption | (simp only [*]; done))) (ok_X9_puff _ _ _ (by first | exact hk | simpa [mm_u_sr, sr_same, sr_sr, up_s, up_o] using hk)) rfl ?_
  refine go_icc (t := 24) dX9_puffs_9 (by decide) c2_le (fun h1 => ?_) (fun h1 => ?_)
  · have h1' := Int32.not_lt.mpr h1
    refine go_pu (st' := .int (0) :: _) dX9_puffs_24 rfl ?_
    refine go_pu (st' := .int (1) :: _) dX9_puffs_25 rfl ?_
    refine go_pu (st' := .int _ :: _) dX9_puffs_26 rfl ?_
    refine go_pi dX9_puffs_27 mf_9_254 rfl rfl (by first | rfl | assumption | (simp only [*]; done)) ?_
    refine go_aload_n dX9_puffs_30 rfl ?_
    refine go_aload_n dX9_puffs_31 rfl ?_
    refine go_gi dX9_puffs_32 mf_9_254 (by decide) (by first | rfl | assumption | (simp only [*]; done)) ?_
    refine go_pu (st' := .int (60) :: _) dX9_puffs_35 rfl ?_
    refine go_icc (t := 45) dX9_puffs_37 (by decide) c2_le (fun h2 => ?_) (fun h2 => ?_)
    · have h2' := Int32.not_lt.mpr h2
      refine go_aload_n dX9_puffs_45 rfl ?_
      refine go_gi dX9_puffs_46 mf_9_254 (by decide) (by first | rfl | assumption | (simp only [*]; done)) ?_
      refine go_pi dX9_puffs_49 mf_9_254 rfl rfl (by first | rfl | assumption | (simp only [*]; done)) ?_
      refine go_vret dX9_puffs_52 rfl ?_ ?_
      · first | rfl | (simp [m_puffs, mm_u_sr, sr_same, sr_sr, up_s, up_o, *]; done) | ((try simp [mm_u_sr, sr_same, sr_sr, up_s, up_o, -Int32.not_lt, -Int32.not_le] at *) <;> simp [m_puffs, mm_u_sr, sr_same, sr_sr, up_s, up_o, *, -Int32.not_lt, -Int32.not_le]; done) | (simp_all [m_puffs, mm_u_sr, sr_same, sr_sr, up_s, up_o]; done)
      · first | rfl | (simp [m_puffs, mm_u_sr, sr_same, sr_sr, up_s, up_o, *]; done) | ((try simp [mm_u_sr, sr_same, sr_sr, up_s, up_o, -Int32.not_lt, -Int32.not_le] at *) <;> simp [m_puffs, mm_u_sr, sr_same, sr_sr, up_s, up_o, *, -Int32.not_lt, -Int32.not_le]; done) | (simp_all [m_puffs, mm_u_sr, sr_same, sr_sr, up_s, up_o]; done)
    · have h2' := Int32.not_le.mp h2
      refine go_pu (st' := .int (60) :: _) dX9_puffs_40 rfl ?_
      refine go_goto (t := 49) dX9_puffs_42 (by decide) ?_
      refine go_pi dX9_puffs_49 mf_9_254 rfl rfl (by first | rfl | assumption | (simp only [*]; done)) ?_
      refine go_vret dX9_puffs_52 rfl ?_ ?_
      · first | rfl | (simp [m_puffs, mm_u_sr, sr_same, sr_sr, up_s, up_o, *]; done) | ((try simp [mm_u_sr, sr_same, sr_sr, up_s, up_o, -Int32.not_lt, -Int32.not_le] at *) <;> simp [m_puffs, mm_u_sr, sr_same, sr_sr, up_s, up_o, *, -Int32.not_lt, -Int32.not_le]; done) | (simp_all [m_puffs, mm_u_sr, sr_same, sr_sr, up_s, up_o]; done)
      · first | rfl | (simp [m_puffs, mm_u_sr, sr_same, sr_sr, up_s, up_o, *]; done) | ((try simp [mm_u_sr, sr_same, sr_sr, up_s, up_o, -Int32.not_lt, -Int32.not_le] at *) <;> simp [m_puffs, mm_u_sr, sr_same, sr_sr, up_s, up_o, *, -Int32.not_lt, -Int32.not_le]; done) | (simp_all [m_puffs, mm_u_sr, sr_same, sr_sr, up_s, up_o]; done)
  · have h1' := Int32.not_le.mp h1
    refine go_aload_n dX9_puffs_12 rfl ?_
    refine go_gi dX9_puffs_13 mf_9_254 (by decide) (by first | rfl | assumption | (simp only [*]; done)) ?_
    refine go_aload_n dX9_puffs_16 rfl ?_
    refine go_call (kind := 1) (args := [.ref _]) (rest := _) dX9_puffs_17 (Or.inr (Or.inl ⟨rfl, rfl⟩)) mk_9_138 (by decide) me_170 rfl rfl rfl rfl rfl (mm_rc_of (by first | rfl | assumption | (simp only [*]; done))) (ok_X9_puff _ _ _ (by first | exact hk | simpa [mm_u_sr, sr_same, sr_sr, up_s, up_o] using hk)) rfl ?_
    refine go_pu (st' := .int _ :: _) dX9_puffs_20 rfl ?_
    refine go_goto (t := 25) dX9_puffs_21 (by decide) ?_
    refine go_pu (st' := .int (1) :: _) dX9_puffs_25 rfl ?_
    refine go_pu (st' := .int _ :: _) dX9_puffs_26 rfl ?_
    refine go_pi dX9_puffs_27 mf_9_254 rfl rfl (by first | rfl | assumption | (simp only [*]; done)) ?_
    refine go_aload_n dX9_puffs_30 rfl ?_
    refine go_aload_n dX9_puffs_31 rfl ?_
    refine go_gi dX9_puffs_32 mf_9_254 (by decide) (by first | rfl | assumption | (simp only [*]; done)) ?_
    refine go_pu (st' := .int (60) :: _) dX9_puffs_35 rfl ?_
    refine go_icc (t := 45) dX9_puffs_37 (by decide) c2_le (fun h3 => ?_) (fun h3 => ?_)
    · have h3' := Int32.not_lt.mpr h3
      refine go_aload_n dX9_puffs_45 rfl ?_
      refine go_gi dX9_puffs_46 mf_9_254 (by decide) (by first | rfl | assumption | (simp only [*]; done)) ?_
      refine go_pi dX9_puffs_49 mf_9_254 rfl rfl (by first | rfl | assumption | (simp only [*]; done)) ?_
      refine go_vret dX9_puffs_52 rfl ?_ ?_
      · first | rfl | (simp [m_puffs, mm_u_sr, sr_same, sr_sr, up_s, up_o, *]; done) | ((try simp [mm_u_sr, sr_same, sr_sr, up_s, up_o, -Int32.not_lt, -Int32.not_le] at *) <;> simp [m_puffs, mm_u_sr, sr_same, sr_sr, up_s, up_o, *, -Int32.not_lt, -Int32.not_le]; done) | (simp_all [m_puffs, mm_u_sr, sr_same, sr_sr, up_s, up_o]; done)
      · first | rfl | (simp [m_puffs, mm_u_sr, sr_same, sr_sr, up_s, up_o, *]; done) | ((try simp [mm_u_sr, sr_same, sr_sr, up_s, up_o, -Int32.not_lt, -Int32.not_le] at *) <;> simp [m_puffs, mm_u_sr, sr_same, sr_sr, up_s, up_o, *, -Int32.not_lt, -Int32.not_le]; done) | (simp_all [m_puffs, mm_u_sr, sr_same, sr_sr, up_s, up_o]; done)
    · have h3' := Int32.not_le.mp h3
      refine go_pu (st' := .int (60) :: _) dX9_puffs_40 rfl ?_
      refine go_goto (t := 49) dX9_puffs_42 (by decide) ?_
      refine go_pi dX9_puffs_49 mf_9_254 rfl rfl (by first | rfl | assumption | (simp only [*]; done)) ?_
      refine go_vret dX9_puffs_52 rfl ?_ ?_
      · first | rfl | (simp [m_puffs, mm_u_sr, sr_same, sr_sr, up_s, up_o, *]; done) | ((try simp [mm_u_sr, sr_same, sr_sr, up_s, up_o, -Int32.not_lt, -Int32.not_le] at *) <;> simp [m_puffs, mm_u_sr, sr_same, sr_sr, up_s, up_o, *, -Int32.not_lt, -Int32.not_le]; done) | (simp_all [m_puffs, mm_u_sr, sr_same, sr_sr, up_s, up_o]; done)
      · first | rfl | (simp [m_puffs, mm_u_sr, sr_same, sr_sr, up_s, up_o, *]; done) | ((try simp [mm_u_sr, sr_same, sr_sr, up_s, up_o, -Int32.not_lt, -Int32.not_le] at *) <;> simp [m_puffs, mm_u_sr, sr_same, sr_sr, up_s, up_o, *, -Int32.not_lt, -Int32.not_le]; done) | (simp_all [m_puffs, mm_u_sr, sr_same, sr_sr, up_s, up_o]; done)

theorem m_puffs_k (μ : mRow) : m_puffs μ 35 = μ 35 := by simp [m_puffs, up_o]

set_option maxHeartbeats 1000000 in
theorem ok_X9_second (d : Nat) (I : mI) (L : mL) (hk : isKd (I 108 35)) : mm_Call (d + 5) 177 [.ref 108] (mm_sh, mm_R, I, L) none (mm_sh, mm_R, (sr I 108 (m_sec (I 108))), L) := by
  refine mm_Call.of_go (d := d + 4) me_177 ⟨Nat.le_of_ble_eq_true rfl, rfl⟩ ?_
  show mm_Go mm_cs0 _ _ _ _ _ _ [some (.ref _)] [] _ _ _
  refine go_aload_n dX9_second_0 rfl ?_
  refine go_gi dX9_second_1 mf_9_263 (by decide) (by first | rfl | assumption | (simp only [*]; done)) ?_
  refine go_ifc (t := 12) dX9_second_4 (by decide) c1_le (fun h1 => ?_) (fun h1 => ?_)
  · have h1' := Int32.not_lt.mpr h1
    refine go_aload_n dX9_second_12 rfl ?_
    refine go_pu dX9_second_13 rfl ?_
    refine go_gi dX9_second_14 mf_9_260 (by decide) (by first | rfl | assumption | (simp only [*]; done)) ?_
    refine go_aload_n dX9_second_17 rfl ?_
    refine go_call (kind := 1) (args := [.ref _]) (rest := _) dX9_second_18 (Or.inr (Or.inl ⟨rfl, rfl⟩)) mk_9_272 (by decide) me_172 rfl rfl rfl rfl rfl (mm_rc_of (by first | rfl | assumption | (simp only [*]; done))) (ok_X9_riskNow _ _ _ hk) rfl ?_
    refine go_pu (st' := .int _ :: _) dX9_second_21 rfl ?_
    refine go_pi dX9_second_22 mf_9_260 rfl rfl (by first | rfl | assumption | (simp only [*]; done)) ?_
    refine go_aload_n dX9_second_25 rfl ?_
    refine go_call (kind := 1) (args := [.ref _]) (rest := _) dX9_second_26 (Or.inr (Or.inl ⟨rfl, rfl⟩)) mk_9_275 (by decide) me_176 rfl rfl rfl rfl rfl (mm_rc_of (by first | rfl | assumption | (simp only [*]; done))) (ok_X9_puffs _ _ _ (by first | exact hk | simpa [mm_u_sr, sr_same, sr_sr, up_s, up_o, m_puffs_k] using hk)) rfl ?_
    refine go_aload_n dX9_second_29 rfl ?_
    refine go_gi dX9_second_30 mf_9_260 (by decide) (by first | rfl | assumption | (simp only [*]; done)) ?_
    refine go_pu (st' := .int (100) :: _) dX9_second_33 rfl ?_
    refine go_icc (t := 56) dX9_second_35 (by decide) c2_lt (fun h2 => ?_) (fun h2 => ?_)
    · have h2' := Int32.not_le.mpr h2
      refine go_aload_n dX9_second_56 rfl ?_
      refine go_pu dX9_second_57 rfl ?_
      refine go_gi dX9_second_58 mf_9_257 (by decide) (by first | rfl | assumption | (simp only [*]; done)) ?_
      refine go_aload_n dX9_second_61 rfl ?_
      refine go_call (kind := 1) (args := [.ref _]) (rest := _) dX9_second_62 (Or.inr (Or.inl ⟨rfl, rfl⟩)) mk_9_142 (by decide) me_169 rfl rfl rfl rfl rfl (mm_rc_of (by first | rfl | assumption | (simp only [*]; done))) (ok_X9_stride _ _ _ (by first | exact hk | simpa [mm_u_sr, sr_same, sr_sr, up_s, up_o, m_puffs_k] using hk)) rfl ?_
      refine go_pu (st' := .int _ :: _) dX9_second_65 rfl ?_
      refine go_pi dX9_second_66 mf_9_257 rfl rfl (by first | rfl | assumption | (simp only [*]; done)) ?_
      refine go_vret dX9_second_69 rfl ?_ ?_
      · first | rfl | (simp [m_sec, mm_u_sr, sr_same, sr_sr, up_s, up_o, *]; done) | ((try simp [mm_u_sr, sr_same, sr_sr, up_s, up_o, -Int32.not_lt, -Int32.not_le] at *) <;> simp [m_sec, mm_u_sr, sr_same, sr_sr, up_s, up_o, *, -Int32.not_lt, -Int32.not_le]; done) | (simp_all [m_sec, mm_u_sr, sr_same, sr_sr, up_s, up_o]; done)
      · first | rfl | (simp [m_sec, mm_u_sr, sr_same, sr_sr, up_s, up_o, *]; done) | ((try simp [mm_u_sr, sr_same, sr_sr, up_s, up_o, -Int32.not_lt, -Int32.not_le] at *) <;> simp [m_sec, mm_u_sr, sr_same, sr_sr, up_s, up_o, *, -Int32.not_lt, -Int32.not_le]; done) | (simp_all [m_sec, mm_u_sr, sr_same, sr_sr, up_s, up_o]; done)
    · have h2' := Int32.not_lt.mp h2
      refine go_aload_n dX9_second_38 rfl ?_
      refine go_pu dX9_second_39 rfl ?_
      refine go_gi dX9_second_40 mf_9_260 (by decide) (by first | rfl | assumption | (simp only [*]; done)) ?_
      refine go_pu (st' := .int (100) :: _) dX9_second_43 rfl ?_
      refine go_pu (st' := .int _ :: _) dX9_second_45 rfl ?_
      refine go_pi dX9_second_46 mf_9_260 rfl rfl (by first | rfl | assumption | (simp only [*]; done)) ?_
      refine go_aload_n dX9_second_49 rfl ?_
      refine go_call (kind := 1) (args := [.ref _]) (rest := _) dX9_second_50 (Or.inr (Or.inl ⟨rfl, rfl⟩)) mk_9_278 (by decide) me_174 rfl rfl rfl rfl rfl (mm_rc_of (by first | rfl | assumption | (simp only [*]; done))) (ok_X9_falls _ _ _) rfl ?_
      refine go_goto (t := 69) dX9_second_53 (by decide) ?_
      refine go_vret dX9_second_69 rfl ?_ ?_
      · first | rfl | (simp [m_sec, mm_u_sr, sr_same, sr_sr, up_s, up_o, *]; done) | ((try simp [mm_u_sr, sr_same, sr_sr, up_s, up_o, -Int32.not_lt, -Int32.not_le] at *) <;> simp [m_sec, mm_u_sr, sr_same, sr_sr, up_s, up_o, *, -Int32.not_lt, -Int32.not_le]; done) | (simp_all [m_sec, mm_u_sr, sr_same, sr_sr, up_s, up_o]; done)
      · first | rfl | (simp [m_sec, mm_u_sr, sr_same, sr_sr, up_s, up_o, *]; done) | ((try simp [mm_u_sr, sr_same, sr_sr, up_s, up_o, -Int32.not_lt, -Int32.not_le] at *) <;> simp [m_sec, mm_u_sr, sr_same, sr_sr, up_s, up_o, *, -Int32.not_lt, -Int32.not_le]; done) | (simp_all [m_sec, mm_u_sr, sr_same, sr_sr, up_s, up_o]; done)
  · have h1' := Int32.not_le.mp h1
    refine go_aload_n dX9_second_7 rfl ?_
    refine go_call (kind := 1) (args := [.ref _]) (rest := _) dX9_second_8 (Or.inr (Or.inl ⟨rfl, rfl⟩)) mk_9_269 (by decide) me_175 rfl rfl rfl rfl rfl (mm_rc_of (by first | rfl | assumption | (simp only [*]; done))) (ok_X9_rests _ _ _) rfl ?_
    refine go_vret dX9_second_11 rfl ?_ ?_
    · first | rfl | (simp [m_sec, mm_u_sr, sr_same, sr_sr, up_s, up_o, *]; done) | ((try simp [mm_u_sr, sr_same, sr_sr, up_s, up_o, -Int32.not_lt, -Int32.not_le] at *) <;> simp [m_sec, mm_u_sr, sr_same, sr_sr, up_s, up_o, *, -Int32.not_lt, -Int32.not_le]; done) | (simp_all [m_sec, mm_u_sr, sr_same, sr_sr, up_s, up_o]; done)
    · first | rfl | (simp [m_sec, mm_u_sr, sr_same, sr_sr, up_s, up_o, *]; done) | ((try simp [mm_u_sr, sr_same, sr_sr, up_s, up_o, -Int32.not_lt, -Int32.not_le] at *) <;> simp [m_sec, mm_u_sr, sr_same, sr_sr, up_s, up_o, *, -Int32.not_lt, -Int32.not_le]; done) | (simp_all [m_sec, mm_u_sr, sr_same, sr_sr, up_s, up_o]; done)
