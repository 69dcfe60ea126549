/-! THE LITTLE MACHINE IS SOUND: the words, the constants; reading -/
def mm_MW : List Cond := lw_tbl.filter goodWord
theorem mm_MW_in {w : Cond} (h1 : w ∈ lw_tbl) (h2 : goodWord w = true) : w ∈ mm_MW := List.mem_filter.mpr ⟨h1, h2⟩
def mm_wk (w : Cond) : Bool := decide (w ∈ lw_tbl) && goodWord w
theorem mm_wk_in {w : Cond} (h : mm_wk w = true) : w ∈ mm_MW := by
  unfold mm_wk at h
  rw [Bool.and_eq_true] at h
  exact mm_MW_in (of_decide_eq_true h.1) h.2
def mm_ckT (t : Nat) (o : Option FieldType) : Bool := match o with
  | some .int => t == 0
  | some .boolean => t == 1
  | some (.object _) => t == 2
  | some (.array _) => t == 2
  | _ => false
def mm_ckF (own : Nat) (e : Nat × Nat × Nat) : Bool := match vwCl[e.2.1]? with
  | some q => decide (e.2.2 < q.2.2) && decide (e.2.1 < 10) && mm_wk (.fieldLink (mm_RN own) e.1 (q.2.1 e.2.2).1 (q.2.1 e.2.2).2.1 (q.2.1 e.2.2).2.2.1) && decide ((q.2.1 e.2.2).2.2.2 = mm_fi e.2.1 e.2.2) && mm_ckT (mm_ft e.2.1 e.2.2) (parseFieldDescriptor (q.2.1 e.2.2).2.2.1) && decide ((q.2.1 e.2.2).1 = mm_RN e.2.1)
  | none => false
set_option maxRecDepth 100000 in
theorem mm_ckF_0 : ∀ own, own < 8 → (mm_fl own).all (mm_ckF own) = true := by decide +kernel
set_option maxRecDepth 100000 in
theorem mm_ckF_8 : (mm_fl 8).all (mm_ckF 8) = true := by decide +kernel
set_option maxRecDepth 100000 in
theorem mm_ckF_9 : (mm_fl 9).all (mm_ckF 9) = true := by decide +kernel
theorem mm_fl_big {own : Nat} (h : 10 ≤ own) : mm_fl own = [] := by
  obtain ⟨k, rfl⟩ : ∃ k, own = k + 10 := ⟨own - 10, by omega⟩
  cases k <;> rfl
theorem mm_find {α : Type} {l : List (Nat × α)} {idx : Nat} {r : α} (h : (l.find? (fun e => e.1 == idx)).map (·.2) = some r) : (idx, r) ∈ l := by
  cases h1 : l.find? (fun e => e.1 == idx) with
  | none => rw [h1] at h; cases h
  | some q =>
    rw [h1] at h
    have h2 := List.find?_some h1
    have h3 := List.mem_of_find?_eq_some h1
    cases h
    have h4 : q.1 = idx := by simpa using h2
    rw [← h4]
    exact h3
theorem mm_fld_ck {own idx : Nat} {r : Nat × Nat} (h : mm_fld own idx = some r) : mm_ckF own (idx, r) = true := by
  have h1 : (idx, r) ∈ mm_fl own := mm_find h
  by_cases a : own < 8
  · exact List.all_eq_true.mp (mm_ckF_0 own a) _ h1
  · by_cases b : own = 8
    · subst b; exact List.all_eq_true.mp mm_ckF_8 _ h1
    · by_cases c : own = 9
      · subst c; exact List.all_eq_true.mp mm_ckF_9 _ h1
      · rw [mm_fl_big (by omega)] at h1; cases h1
/-- what the tables say of a class's fields -/
def mm_Cl (c : Nat) (C : String) (T : u_T) (N : Nat) : Prop := vwCl[c]? = some (C, T, N) ∧ N = mm_fn c ∧ C = mm_RN c ∧ (∃ ty0 : Nat → FieldType, ∀ k, k < N → parseFieldDescriptor (T k).2.2.1 = some (ty0 k)) ∧ (∀ a, a < N → ∀ b, b < N → a ≠ b → (T a).2.1 ≠ (T b).2.1) ∧ ∀ w ∈ u_ws C T N, w ∈ mm_MW
theorem mm_uws {C : String} {T : u_T} {N : Nat} (h : (u_ws C T N).all mm_wk = true) : ∀ w ∈ u_ws C T N, w ∈ mm_MW := fun w hw => mm_wk_in (List.all_eq_true.mp h w hw)
set_option maxRecDepth 100000 in
theorem mm_Cl_0 : mm_Cl 0 RX0 TX0 6 := ⟨rfl, by decide, rfl, ⟨tyX0, tyX0_ok⟩, nmX0, mm_uws (by decide +kernel)⟩
set_option maxRecDepth 100000 in
theorem mm_Cl_1 : mm_Cl 1 RX1 TX1 8 := ⟨rfl, by decide, rfl, ⟨tyX1, tyX1_ok⟩, nmX1, mm_uws (by decide +kernel)⟩
set_option maxRecDepth 100000 in
theorem mm_Cl_2 : mm_Cl 2 RX2 TX2 7 := ⟨rfl, by decide, rfl, ⟨tyX2, tyX2_ok⟩, nmX2, mm_uws (by decide +kernel)⟩
set_option maxRecDepth 100000 in
theorem mm_Cl_3 : mm_Cl 3 RX3 TX3 5 := ⟨rfl, by decide, rfl, ⟨tyX3, tyX3_ok⟩, nmX3, mm_uws (by decide +kernel)⟩
set_option maxRecDepth 100000 in
theorem mm_Cl_4 : mm_Cl 4 RX4 TX4 16 := ⟨rfl, by decide, rfl, ⟨tyX4, tyX4_ok⟩, nmX4, mm_uws (by decide +kernel)⟩
set_option maxRecDepth 100000 in
theorem mm_Cl_5 : mm_Cl 5 RX5 TX5 3 := ⟨rfl, by decide, rfl, ⟨tyX5, tyX5_ok⟩, nmX5, mm_uws (by decide +kernel)⟩
set_option maxRecDepth 100000 in
theorem mm_Cl_6 : mm_Cl 6 RX6 TX6 2 := ⟨rfl, by decide, rfl, ⟨tyX6, tyX6_ok⟩, nmX6, mm_uws (by decide +kernel)⟩
set_option maxRecDepth 100000 in
theorem mm_Cl_7 : mm_Cl 7 RX7 TX7 3 := ⟨rfl, by decide, rfl, ⟨tyX7, tyX7_ok⟩, nmX7, mm_uws (by decide +kernel)⟩
set_option maxRecDepth 100000 in
theorem mm_Cl_8 : mm_Cl 8 RX8 TX8 14 := ⟨rfl, by decide, rfl, ⟨tyX8, tyX8_ok⟩, nmX8, mm_uws (by decide +kernel)⟩
set_option maxRecDepth 100000 in
theorem mm_Cl_9 : mm_Cl 9 RX9 TX9 59 := ⟨rfl, by decide, rfl, ⟨tyX9, tyX9_ok⟩, nmX9, mm_uws (by decide +kernel)⟩
theorem mm_Cl_all : ∀ c, c < 10 → ∃ C T N, mm_Cl c C T N := by
  intro c hc
  match c, hc with
  | 0, _ => exact ⟨_, _, _, mm_Cl_0⟩
  | 1, _ => exact ⟨_, _, _, mm_Cl_1⟩
  | 2, _ => exact ⟨_, _, _, mm_Cl_2⟩
  | 3, _ => exact ⟨_, _, _, mm_Cl_3⟩
  | 4, _ => exact ⟨_, _, _, mm_Cl_4⟩
  | 5, _ => exact ⟨_, _, _, mm_Cl_5⟩
  | 6, _ => exact ⟨_, _, _, mm_Cl_6⟩
  | 7, _ => exact ⟨_, _, _, mm_Cl_7⟩
  | 8, _ => exact ⟨_, _, _, mm_Cl_8⟩
  | 9, _ => exact ⟨_, _, _, mm_Cl_9⟩
  | n + 10, h => omega
def mm_stt : List (String × String × Nat) := [(RX8, "ABOVE", 1000), (RX8, "LEAST_TERM", 1001), (RX8, "MOST_TERM", 1002), (RX3, "BODIES", 1003)]
def mm_nst : List Cond := [.fieldLinkNest RX5 140 RX8 "LEAST_TERM" "[I" RX8,
  .fieldLinkNest RX5 143 RX8 "MOST_TERM" "[I" RX8,
  .fieldLinkNest RX3 45 RX8 "ABOVE" "[I" RX8,
  .methodLinkNest RX1 31 yX0_init RX8,
  .methodLinkNest RX1 32 yX6_init RX8,
  .methodLinkNest RX8 30 yX4_init RX8,
  .methodLinkNest RX4 11 yX0_init RX8,
  .methodLinkNest RX8 41 yX5_init RX8,
  .methodLinkNest RX8 48 yX2_init RX8,
  .methodLinkNest RX8 55 yX3_init RX8,
  .methodLinkNest RX8 74 yX7_init RX8,
  .methodLinkNest RX4 90 yX8_isUnder RX8,
  .methodLinkNest RX1 67 yX8_isTerm RX8,
  .methodLinkNest RX5 137 yX8_isTerm RX8,
  .methodLinkNest RX3 38 yX8_isKind RX8]
def mm_srs : List (Nat × String) := [(123, "child"), (125, "sack"), (126, "wears"), (128, "ahead"), (129, "way"), (131, "up"), (133, "rope"), (135, "wind")]
def mm_syl : List Nat := [5, 4, 5, 5, 3, 2, 4, 4]
def mm_ss : List (List Int32) := [[99, 104, 105, 108, 100], [115, 97, 99, 107], [119, 101, 97, 114, 115], [97, 104, 101, 97, 100], [119, 97, 121], [117, 112], [114, 111, 112, 101], [119, 105, 110, 100]]
