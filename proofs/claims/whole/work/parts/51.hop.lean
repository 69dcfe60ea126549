/-! LAYER B: arithmetic of ints by their numbers; the hopper as a function of what determines a time -/
theorem ti_add {x y : Int32} (h1 : -2147483648 ≤ x.toInt + y.toInt) (h2 : x.toInt + y.toInt ≤ 2147483647) : (x + y).toInt = x.toInt + y.toInt := by
  rw [Int32.toInt_add]
  exact Int.bmod_eq_of_le (by omega) (by omega)
theorem ti_sub {x y : Int32} (h1 : -2147483648 ≤ x.toInt - y.toInt) (h2 : x.toInt - y.toInt ≤ 2147483647) : (x - y).toInt = x.toInt - y.toInt := by
  rw [Int32.toInt_sub]
  exact Int.bmod_eq_of_le (by omega) (by omega)
theorem ti_lt {x y : Int32} : x < y ↔ x.toInt < y.toInt := Int32.lt_iff_toInt_lt
theorem ti_le {x y : Int32} : x ≤ y ↔ x.toInt ≤ y.toInt := Int32.le_iff_toInt_le
theorem ti_eq {x y : Int32} : x = y ↔ x.toInt = y.toInt := Int32.toInt_inj.symm
theorem ti_0 : (0 : Int32).toInt = 0 := by decide
theorem ti_1 : (1 : Int32).toInt = 1 := by decide
theorem ti_2 : (2 : Int32).toInt = 2 := by decide
theorem ti_60 : (60 : Int32).toInt = 60 := by decide
theorem ti_99 : (99 : Int32).toInt = 99 := by decide
theorem ti_100 : (100 : Int32).toInt = 100 := by decide
theorem ti_999 : (999 : Int32).toInt = 999 := by decide
theorem ti_n1 : (-1 : Int32).toInt = -1 := by decide
/-- an int from a to b -/
def wi (x : Int32) (a b : Int) : Prop := a ≤ x.toInt ∧ x.toInt ≤ b
/-- at, breath, wobble, down, falls -/
abbrev hS : Type := Int32 × Int32 × Int32 × Int32 × Int32
def h_b (b pf : Int32) : Int32 := if 60 < (if pf < b then b - pf else 0) + 1 then 60 else (if pf < b then b - pf else 0) + 1
def h_w (pf rk : Int32) (s : hS) : Int32 := s.2.2.1 + (rk + (if s.2.1 < pf then 20 else 0))
def h_s (rl up st pf rk : Int32) (s : hS) : hS :=
  if 0 < s.2.2.2.1 then ((if rl = 1 then s.1 + 1 else s.1), (if 60 < s.2.1 + 2 then 60 else s.2.1 + 2), s.2.2.1, s.2.2.2.1 - 1, s.2.2.2.2)
  else if 100 ≤ h_w pf rk s then (s.1, h_b s.2.1 pf, h_w pf rk s - 100, up, s.2.2.2.2 + 1)
  else (s.1 + st, h_b s.2.1 pf, h_w pf rk s, s.2.2.2.1, s.2.2.2.2)
def h_go (rl up st pf rk w : Int32) : Nat → hS → hS
  | 0, s => s
  | n + 1, s => if s.1 < w then h_go rl up st pf rk w n (h_s rl up st pf rk s) else s
def h_cnt (rl up st pf rk w : Int32) : Nat → hS → Nat
  | 0, _ => 0
  | n + 1, s => if s.1 < w then h_cnt rl up st pf rk w n (h_s rl up st pf rk s) + 1 else 0
def h_0 (ah br : Int32) : hS := (ah, br, 0, 0, 0)
/-- the time of one at ah with breath br: way w, rope ro more -/
def h_in (rl up st pf rk w ro ah br : Int32) : Int32 :=
  if (h_go rl up st pf rk w 999 (h_0 ah br)).1 < w then 999 else if 999 < nI (h_cnt rl up st pf rk w 999 (h_0 ah br)) + ro then 999 else nI (h_cnt rl up st pf rk w 999 (h_0 ah br)) + ro
def m_t (μ : mRow) : hS := (μ 42, μ 43, μ 44, μ 45, μ 46)
/-- what a second doesn't change of the reference's row -/
def m_p (μ : mRow) : List Int32 := [μ 2, μ 3, μ 4, μ 35, μ 36, μ 37, μ 38, μ 39, μ 41]
theorem m_sec_p (μ : mRow) {j : Nat} (h : j < 42 ∨ 46 < j) : m_sec μ j = μ j := by
  have h2 : j ≠ 42 := by omega
  have h3 : j ≠ 43 := by omega
  have h4 : j ≠ 44 := by omega
  have h5 : j ≠ 45 := by omega
  have h6 : j ≠ 46 := by omega
  unfold m_sec m_rests m_falls m_puffs
  simp only []
  repeat' split
  all_goals simp [upd, h2, h3, h4, h5, h6]
theorem m_sec_t (μ : mRow) : m_t (m_sec μ) = h_s (μ 41) (μ 3) (m_stride μ) (m_puff μ) (m_risk μ) (m_t μ) := by
  have hw : h_w (m_puff μ) (m_risk μ) (m_t μ) = μ 44 + m_riskNow μ := rfl
  have hp : ∀ v, m_puff (upd μ 44 v) = m_puff μ := fun v => rfl
  have hst : ∀ ν : mRow, (∀ j, j < 42 → ν j = μ j) → m_stride ν = m_stride μ := fun ν h => by unfold m_stride; rw [h 35 (by decide), h 36 (by decide), h 37 (by decide), h 38 (by decide)]
  unfold m_sec h_s
  rw [hw]
  by_cases h1 : 0 < μ 45
  · have h1' : 0 < (m_t μ).2.2.2.1 := h1
    rw [if_pos h1, if_pos h1']
    unfold m_rests m_t
    by_cases h2 : μ 41 = 1
    · simp [upd, h2]
    · simp [upd, h2]
  · have h1' : ¬ 0 < (m_t μ).2.2.2.1 := h1
    rw [if_neg h1, if_neg h1']
    have h44 : m_puffs (upd μ 44 (μ 44 + m_riskNow μ)) 44 = μ 44 + m_riskNow μ := by simp [m_puffs, upd]
    have h43 : m_puffs (upd μ 44 (μ 44 + m_riskNow μ)) 43 = h_b (μ 43) (m_puff μ) := by (simp [m_puffs, upd, h_b, hp, m_puff]; rfl)
    have hot : ∀ j, j ≠ 43 → j ≠ 44 → m_puffs (upd μ 44 (μ 44 + m_riskNow μ)) j = μ j := fun j a b => by simp [m_puffs, upd, a, b]
    dsimp only
    rw [h44]
    by_cases h2 : 100 ≤ μ 44 + m_riskNow μ
    · rw [if_pos h2, if_pos h2]
      unfold m_falls m_t
      simp [upd, h43, hot]
    · rw [if_neg h2, if_neg h2]
      unfold m_t
      rw [hst _ (fun j hj => hot j (by omega) (by omega))]
      simp [upd, h43, h44, hot]
theorem m_par {μ ν : mRow} (h : ∀ j, j < 42 → ν j = μ j) : m_stride ν = m_stride μ ∧ m_puff ν = m_puff μ ∧ m_risk ν = m_risk μ := by
  have e : m_stride ν = m_stride μ := by unfold m_stride; rw [h 35 (by decide), h 36 (by decide), h 37 (by decide), h 38 (by decide)]
  refine ⟨e, ?_, ?_⟩
  · unfold m_puff; rw [h 35 (by decide)]
  · unfold m_risk; rw [e, h 35 (by decide), h 38 (by decide), h 39 (by decide)]
theorem m_go_h (n : Nat) : ∀ μ : mRow, m_t (m_go n μ) = h_go (μ 41) (μ 3) (m_stride μ) (m_puff μ) (m_risk μ) (μ 2) n (m_t μ) ∧ m_cnt n μ = h_cnt (μ 41) (μ 3) (m_stride μ) (m_puff μ) (m_risk μ) (μ 2) n (m_t μ) ∧ ∀ j, j < 42 ∨ 46 < j → m_go n μ j = μ j := by
  induction n with
  | zero => intro μ; exact ⟨rfl, rfl, fun _ _ => rfl⟩
  | succ n ih =>
    intro μ
    by_cases h : μ 42 < μ 2
    · have h' : (m_t μ).1 < μ 2 := h
      obtain ⟨a, b, c⟩ := ih (m_sec μ)
      obtain ⟨p1, p2, p3⟩ := m_par (μ := μ) (ν := m_sec μ) (fun j hj => m_sec_p μ (Or.inl hj))
      rw [p1, p2, p3, m_sec_p μ (j := 41) (by omega), m_sec_p μ (j := 3) (by omega), m_sec_p μ (j := 2) (by omega), m_sec_t] at a b
      rw [show m_go (n + 1) μ = m_go n (m_sec μ) from if_pos h, show m_cnt (n + 1) μ = m_cnt n (m_sec μ) + 1 from if_pos h]
      refine ⟨?_, ?_, fun j hj => by rw [c j hj, m_sec_p μ hj]⟩
      · rw [a]; exact (if_pos h').symm
      · rw [b]; exact (if_pos h').symm
    · have h' : ¬ (m_t μ).1 < μ 2 := h
      rw [show m_go (n + 1) μ = μ from if_neg h, show m_cnt (n + 1) μ = 0 from if_neg h]
      exact ⟨(if_neg h').symm, (if_neg h').symm, fun _ _ => rfl⟩
def m_ro (rp l : Int32) : Int32 := if l < rp then rp - l else 0
theorem m_st_p (μ : mRow) {j : Nat} (h : j < 42 ∨ 46 < j) : m_starts μ j = μ j := by
  have h2 : j ≠ 42 := by omega
  have h3 : j ≠ 43 := by omega
  have h4 : j ≠ 44 := by omega
  have h5 : j ≠ 45 := by omega
  have h6 : j ≠ 46 := by omega
  simp [m_starts, upd, h2, h3, h4, h5, h6]
theorem m_st_t (μ : mRow) : m_t (m_starts μ) = h_0 (μ 40) (μ 5) := by simp [m_t, m_starts, upd, h_0]
theorem m_in_h (μ : mRow) : m_in μ = h_in (μ 41) (μ 3) (m_stride μ) (m_puff μ) (m_risk μ) (μ 2) (m_ro (μ 4) (μ 37)) (μ 40) (μ 5) := by
  obtain ⟨a, b, c⟩ := m_go_h 999 (m_starts μ)
  obtain ⟨p1, p2, p3⟩ := m_par (μ := μ) (ν := m_starts μ) (fun j hj => m_st_p μ (Or.inl hj))
  rw [p1, p2, p3, m_st_p μ (j := 41) (by omega), m_st_p μ (j := 3) (by omega), m_st_p μ (j := 2) (by omega), m_st_t] at a b
  unfold m_in h_in m_inR m_rope
  rw [c 2 (by omega), c 4 (by omega), c 37 (by omega), m_st_p μ (j := 2) (by omega), m_st_p μ (j := 4) (by omega), m_st_p μ (j := 37) (by omega), b, show m_go 999 (m_starts μ) 42 = (m_t (m_go 999 (m_starts μ))).1 from rfl, a]
  rfl
theorem m_inM_o (μ : mRow) {j : Nat} (h : j < 42 ∨ 46 < j) : m_inM μ j = μ j := by
  unfold m_inM
  rw [(m_go_h 999 (m_starts μ)).2.2 j h, m_st_p μ h]
/-- the racer's row shows what a time needs, k seconds on -/
def r_t (ρ : mRow) : hS := (ρ 9, ρ 10, ρ 11, ρ 12, ρ 13)
theorem min60 (x : Int32) : (if x < 60 then x else 60) = if 60 < x then 60 else x := by
  by_cases h : x < 60
  · rw [if_pos h, if_neg (fun z => by rw [ti_lt] at h z; omega)]
  · by_cases h2 : 60 < x
    · rw [if_neg h, if_pos h2]
    · rw [if_neg h, if_neg h2]
      rw [ti_lt, ti_60] at h h2
      apply ti_eq.mpr
      rw [ti_60]
      omega
theorem r_puffs_h {ρ : mRow} (hb : wi (ρ 10) 0 60) (hp : wi (ρ 7) 0 5) : r_puffs ρ = h_b (ρ 10) (ρ 7) := by
  have hs : (ρ 10 - ρ 7).toInt = (ρ 10).toInt - (ρ 7).toInt := ti_sub (by have := hb.1; have := hp.2; omega) (by have := hb.2; have := hp.1; omega)
  have e : (if 0 < ρ 10 - ρ 7 then ρ 10 - ρ 7 else 0) = if ρ 7 < ρ 10 then ρ 10 - ρ 7 else 0 := by
    by_cases h : ρ 7 < ρ 10
    · rw [if_pos h, if_pos (by rw [ti_lt, hs, ti_0]; rw [ti_lt] at h; omega)]
    · rw [if_neg h, if_neg (by rw [ti_lt, hs, ti_0]; rw [ti_lt] at h; omega)]
  unfold r_puffs h_b
  rw [e, min60]
theorem h_b_wi {b pf : Int32} (hb : wi b 0 60) (hp : wi pf 0 5) : wi (h_b b pf) 0 60 := by
  obtain ⟨b0, b1⟩ := hb
  obtain ⟨p0, p1⟩ := hp
  have hs : (b - pf).toInt = b.toInt - pf.toInt := ti_sub (by omega) (by omega)
  have h0 : ((0 : Int32) + 1).toInt = 1 := by decide
  unfold h_b wi
  by_cases h : pf < b
  · simp only [if_pos h]
    have hs1 : (b - pf + 1).toInt = b.toInt - pf.toInt + 1 := by
      rw [ti_add (by rw [hs, ti_1]; omega) (by rw [hs, ti_1]; omega), hs, ti_1]
    rw [ti_lt] at h
    by_cases h2 : 60 < b - pf + 1
    · rw [if_pos h2, ti_60]; omega
    · rw [if_neg h2, hs1]
      rw [ti_lt, ti_60, hs1] at h2
      omega
  · simp only [if_neg h]
    rw [if_neg (by decide), h0]
    omega
theorem r_sec_h {ρ : mRow} (hb : wi (ρ 10) 0 60) (hp : wi (ρ 7) 0 5) (hr : ρ 2 = 0 ∨ ρ 2 = 1) : r_t (r_sec ρ) = h_s (ρ 2) (ρ 4) (ρ 6) (ρ 7) (ρ 8) (r_t ρ) := by
  have hw : h_w (ρ 7) (ρ 8) (r_t ρ) = ρ 11 + r_risk ρ := by
    unfold h_w r_risk r_t
    dsimp only
    by_cases h : ρ 10 < ρ 7
    · rw [if_pos h, if_pos h]
    · rw [if_neg h, if_neg h]; simp
  unfold r_sec h_s
  rw [hw]
  by_cases h1 : 0 < ρ 12
  · have h1' : 0 < (r_t ρ).2.2.2.1 := h1
    rw [if_pos h1, if_pos h1']
    unfold r_lie r_t
    rcases hr with h2 | h2
    · simp [upd, h2, min60]
    · simp [upd, h2, min60]
  · have h1' : ¬ 0 < (r_t ρ).2.2.2.1 := h1
    rw [if_neg h1, if_neg h1']
    dsimp only
    rw [up_s]
    have hpp : ∀ ν : mRow, ν 10 = ρ 10 → ν 7 = ρ 7 → r_puffs ν = h_b (ρ 10) (ρ 7) := fun ν a b => by rw [r_puffs_h (by rw [a]; exact hb) (by rw [b]; exact hp), a, b]
    by_cases h2 : ρ 11 + r_risk ρ < 100
    · rw [if_pos h2, if_neg (Int32.not_le.mpr h2)]
      unfold r_hop
      rw [hpp _ (by simp [upd]) (by simp [upd])]
      unfold r_t
      simp [upd]
    · rw [if_neg h2, if_pos (Int32.not_lt.mp h2)]
      unfold r_hop
      rw [hpp _ (by simp [upd]) (by simp [upd])]
      unfold r_t
      by_cases h3 : ρ 13 = 0
      · simp [upd, h3]
      · simp [upd, h3]
theorem r_sec_p (ρ : mRow) {j : Nat} (h : j < 9) : r_sec ρ j = ρ j := by
  have h2 : j ≠ 9 := by omega
  have h3 : j ≠ 10 := by omega
  have h4 : j ≠ 11 := by omega
  have h5 : j ≠ 12 := by omega
  have h6 : j ≠ 13 := by omega
  have h7 : j ≠ 14 := by omega
  have h8 : j ≠ 15 := by omega
  unfold r_sec r_lie r_hop
  simp only []
  repeat' split
  all_goals simp [upd, h2, h3, h4, h5, h6, h7, h8]
theorem r_sec_15 (ρ : mRow) : r_sec ρ 15 = ρ 15 + 1 := by
  unfold r_sec r_lie r_hop
  simp only []
  repeat' split
  all_goals simp [upd]
theorem h_s_b {rl up st pf rk : Int32} {s : hS} (hb : wi s.2.1 0 60) (hp : wi pf 0 5) : wi (h_s rl up st pf rk s).2.1 0 60 := by
  unfold h_s
  split
  · dsimp only
    have e : (s.2.1 + 2).toInt = s.2.1.toInt + 2 := by
      have := hb.1; have := hb.2
      rw [ti_add (by rw [ti_2]; omega) (by rw [ti_2]; omega), ti_2]
    have := hb.1
    by_cases h : 60 < s.2.1 + 2
    · rw [if_pos h]; unfold wi; rw [ti_60]; omega
    · rw [if_neg h]; unfold wi; rw [ti_lt, e, ti_60] at h; rw [e]; omega
  · split
    · exact h_b_wi hb hp
    · exact h_b_wi hb hp
theorem r_go_h (n : Nat) : ∀ ρ : mRow, wi (ρ 10) 0 60 → wi (ρ 7) 0 5 → (ρ 2 = 0 ∨ ρ 2 = 1) → r_t (r_go n ρ) = h_go (ρ 2) (ρ 4) (ρ 6) (ρ 7) (ρ 8) (ρ 3) n (r_t ρ) ∧ r_go n ρ 15 = ρ 15 + nI (h_cnt (ρ 2) (ρ 4) (ρ 6) (ρ 7) (ρ 8) (ρ 3) n (r_t ρ)) ∧ ∀ j, j < 9 → r_go n ρ j = ρ j := by
  induction n with
  | zero => intro ρ _ _ _; exact ⟨rfl, by show ρ 15 = ρ 15 + nI 0; rw [nI_0]; simp, fun _ _ => rfl⟩
  | succ n ih =>
    intro ρ hb hp hr
    by_cases h : ρ 9 < ρ 3
    · have h' : (r_t ρ).1 < ρ 3 := h
      have e := r_sec_h hb hp hr
      obtain ⟨a, b, c⟩ := ih (r_sec ρ) (by
          have := h_s_b (rl := ρ 2) (up := ρ 4) (st := ρ 6) (rk := ρ 8) (s := r_t ρ) hb hp
          rw [← e] at this
          exact this) (by rw [r_sec_p ρ (by omega)]; exact hp) (by rw [r_sec_p ρ (by omega)]; exact hr)
      rw [r_sec_p ρ (j := 2) (by omega), r_sec_p ρ (j := 4) (by omega), r_sec_p ρ (j := 6) (by omega), r_sec_p ρ (j := 7) (by omega), r_sec_p ρ (j := 8) (by omega), r_sec_p ρ (j := 3) (by omega), e] at a b
      rw [show r_go (n + 1) ρ = r_go n (r_sec ρ) from if_pos h]
      refine ⟨?_, ?_, fun j hj => by rw [c j hj, r_sec_p ρ hj]⟩
      · rw [a]; exact (if_pos h').symm
      · rw [b, r_sec_15, show h_cnt (ρ 2) (ρ 4) (ρ 6) (ρ 7) (ρ 8) (ρ 3) (n + 1) (r_t ρ) = h_cnt (ρ 2) (ρ 4) (ρ 6) (ρ 7) (ρ 8) (ρ 3) n (h_s (ρ 2) (ρ 4) (ρ 6) (ρ 7) (ρ 8) (r_t ρ)) + 1 from if_pos h', nI_succ, Int32.add_assoc, Int32.add_comm 1]
    · have h' : ¬ (r_t ρ).1 < ρ 3 := h
      rw [show r_go (n + 1) ρ = ρ from if_neg h, show h_go (ρ 2) (ρ 4) (ρ 6) (ρ 7) (ρ 8) (ρ 3) (n + 1) (r_t ρ) = r_t ρ from if_neg h', show h_cnt (ρ 2) (ρ 4) (ρ 6) (ρ 7) (ρ 8) (ρ 3) (n + 1) (r_t ρ) = 0 from if_neg h']
      exact ⟨rfl, by rw [nI_0]; simp, fun _ _ => rfl⟩
theorem min999 (x : Int32) : (if x < 999 then x else 999) = if 999 < x then 999 else x := by
  by_cases h : x < 999
  · rw [if_pos h, if_neg (fun z => by rw [ti_lt] at h z; omega)]
  · by_cases h2 : 999 < x
    · rw [if_neg h, if_pos h2]
    · rw [if_neg h, if_neg h2]
      rw [ti_lt, ti_999] at h h2
      apply ti_eq.mpr
      rw [ti_999]
      omega
theorem r_time_h {ρ : mRow} (hb : wi (ρ 10) 0 60) (hp : wi (ρ 7) 0 5) (hr : ρ 2 = 0 ∨ ρ 2 = 1) (h0 : r_t ρ = h_0 (ρ 9) (ρ 10)) (h15 : ρ 15 = 0) : r_time (r_go 999 ρ) = h_in (ρ 2) (ρ 4) (ρ 6) (ρ 7) (ρ 8) (ρ 3) (ρ 5) (ρ 9) (ρ 10) := by
  obtain ⟨a, b, c⟩ := r_go_h 999 ρ hb hp hr
  unfold r_time h_in
  rw [c 3 (by omega), c 5 (by omega), b, h15, show r_go 999 ρ 9 = (r_t (r_go 999 ρ)).1 from rfl, a, h0, min999]
  simp
