/-! THE LITTLE MACHINE: a step, a walk, a call -/
abbrev mm_Cf : Type := Nat × mm_Ls × List Value × mm_M
def mm_st1 (cs : mm_Cs) (own : Nat) (ini : Bool) (rt : Option FieldType) (i : Instr) (n : Nat) (C : mm_Cf) : Option (mm_Cf ⊕ (Option Value × mm_M)) :=
  match mm_pu i C.2.2.1 with
  | some st' => some (.inl (C.1 + n, C.2.1, st', C.2.2.2))
  | none => match mm_lo i C.2.1 C.2.2.1 with
    | some q => some (.inl (C.1 + n, q.1, q.2, C.2.2.2))
    | none => match mm_br C.1 i C.2.2.1 with
      | some q => some (.inl (q.1, C.2.1, q.2, C.2.2.2))
      | none => match mm_rd cs own i C.2.2.1 C.2.2.2 with
        | some st' => some (.inl (C.1 + n, C.2.1, st', C.2.2.2))
        | none => match mm_wr ini own i C.2.2.1 C.2.2.2 with
          | some q => some (.inl (C.1 + n, C.2.1, q.1, q.2))
          | none => match mm_re rt i C.2.2.1 with
            | some v => some (.inr (v, C.2.2.2))
            | none => match mm_al own i C.2.1 C.2.2.1 C.2.2.2 with
              | some q => some (.inl (C.1 + n, C.2.1, q.1, q.2))
              | none => none
def mm_st2 (cal : mm_Ca) (d : Nat) (own : Nat) (i : Instr) (C : mm_Cf) : Option (mm_Cf ⊕ (Option Value × mm_M)) :=
  match mm_ca cal d own i C.2.2.1 C.2.2.2 with
  | some q => if q.2.1.length = C.2.2.2.1.length ∨ (mm_vl C.2.2.2.1.length C.2.1 = true ∧ C.2.2.1.all (mm_vo C.2.2.2.1.length) = true) then some (.inl (C.1 + 3, C.2.1, q.1, q.2)) else none
  | none => none
def mm_step (cal : mm_Ca) (d : Nat) (cs : mm_Cs) (own : Nat) (ini : Bool) (rt : Option FieldType) (b : ByteArray) (C : mm_Cf) : Option (mm_Cf ⊕ (Option Value × mm_M)) :=
  match decode b C.1 with
  | .error _ => none
  | .ok q =>
    if q.2 = mm_ln q.1 ∨ mm_sw q.1 = true then
      match mm_st1 cs own ini rt q.1 q.2 C with
      | some r => some r
      | none => mm_st2 cal d own q.1 C
    else none
def mm_go (cal : mm_Ca) (d : Nat) (cs : mm_Cs) (own : Nat) (ini : Bool) (rt : Option FieldType) (b : ByteArray) : Nat → mm_Cf → Option (Option Value × mm_M)
  | 0, _ => none
  | n + 1, C => match mm_step cal d cs own ini rt b C with
    | some (.inl C') => mm_go cal d cs own ini rt b n C'
    | some (.inr r) => some r
    | none => none
def mm_exe (cs : mm_Cs) (N : Nat) : Nat → mm_Ca
  | 0 => fun _ _ _ => none
  | d + 1 => fun mi args M => match mm_me mi with
    | some e => if (mm_ar args).length ≤ e.2.2.2.1 ∧ args.length = e.2.2.2.2.2.2.1 then mm_go (mm_exe cs N d) d cs e.2.1 e.2.2.2.2.2.1 e.2.2.2.2.1 e.2.2.1 N (0, mm_en e.2.2.2.1 args, [], M) else none
    | none => none
/-- more fuel, the same answer -/
def mm_le (c c' : mm_Ca) : Prop := ∀ mi a M r, c mi a M = some r → c' mi a M = some r
theorem mm_ci_mono {c c' : mm_Ca} (h : mm_le c c') {d own idx k : Nat} {st : List Value} {M : mm_M} {r : List Value × mm_M} (hr : mm_ci c d own idx k st M = some r) : mm_ci c' d own idx k st M = some r := by
  cases h1 : mm_mt own idx with
  | none => simp [mm_ci, h1] at hr
  | some q =>
    by_cases h9 : 900 ≤ q.1
    · simp only [mm_ci, h1, if_pos h9] at hr ⊢
      exact hr
    · simp only [mm_ci, h1, if_neg h9] at hr ⊢
      cases h2 : mm_me q.1 with
      | none => simp [h2] at hr
      | some e =>
        simp only [h2] at hr ⊢
        split at hr
        · rename_i h3
          rw [if_pos h3]
          cases h4 : c q.1 (List.take e.2.2.2.2.2.2.1 st).reverse M with
          | none => simp [h4, mm_pop] at hr
          | some r0 =>
            rw [h4] at hr
            rw [h _ _ _ _ h4]
            exact hr
        · cases hr
theorem mm_ca_mono {c c' : mm_Ca} (h : mm_le c c') {d own : Nat} {i : Instr} {st : List Value} {M : mm_M} {r : List Value × mm_M} (hr : mm_ca c d own i st M = some r) : mm_ca c' d own i st M = some r := by
  cases i <;> first | exact mm_ci_mono h hr | (simp [mm_ca] at hr)
theorem mm_st2_mono {c c' : mm_Ca} (h : mm_le c c') {d own : Nat} {i : Instr} {C : mm_Cf} {r : mm_Cf ⊕ (Option Value × mm_M)} (hr : mm_st2 c d own i C = some r) : mm_st2 c' d own i C = some r := by
  unfold mm_st2 at hr ⊢
  cases h1 : mm_ca c d own i C.2.2.1 C.2.2.2 with
  | none => simp [h1] at hr
  | some q =>
    rw [h1] at hr
    rw [mm_ca_mono h h1]
    exact hr
theorem mm_step_mono {c c' : mm_Ca} (h : mm_le c c') {d : Nat} {cs : mm_Cs} {own : Nat} {ini : Bool} {rt : Option FieldType} {b : ByteArray} {C : mm_Cf} {r : mm_Cf ⊕ (Option Value × mm_M)} (hr : mm_step c d cs own ini rt b C = some r) : mm_step c' d cs own ini rt b C = some r := by
  unfold mm_step at hr ⊢
  cases h1 : decode b C.1 with
  | error e => rw [h1] at hr; cases hr
  | ok q =>
    rw [h1] at hr
    dsimp only at hr ⊢
    split at hr
    · rename_i h2
      rw [if_pos h2]
      cases h3 : mm_st1 cs own ini rt q.1 q.2 C with
      | some r0 => rw [h3] at hr; exact hr
      | none =>
        rw [h3] at hr
        exact mm_st2_mono h hr
    · cases hr
theorem mm_go_mono {c c' : mm_Ca} (h : mm_le c c') {d : Nat} {cs : mm_Cs} {own : Nat} {ini : Bool} {rt : Option FieldType} {b : ByteArray} {r : Option Value × mm_M} : ∀ (n n' : Nat) (C : mm_Cf), n ≤ n' → mm_go c d cs own ini rt b n C = some r → mm_go c' d cs own ini rt b n' C = some r := by
  intro n
  induction n with
  | zero => intro n' C _ hr; cases hr
  | succ n ih =>
    intro n' C hn hr
    obtain ⟨k, rfl⟩ : ∃ k, n' = k + 1 := ⟨n' - 1, by omega⟩
    unfold mm_go at hr ⊢
    cases h1 : mm_step c d cs own ini rt b C with
    | none => rw [h1] at hr; cases hr
    | some q =>
      rw [h1] at hr
      rw [mm_step_mono h h1]
      cases q with
      | inl C' => exact ih k C' (by omega) hr
      | inr r0 => exact hr
theorem mm_exe_mono (cs : mm_Cs) {N N' : Nat} (hN : N ≤ N') : ∀ d, mm_le (mm_exe cs N d) (mm_exe cs N' d) := by
  intro d
  induction d with
  | zero => intro mi a M r hr; cases hr
  | succ d ih =>
    intro mi a M r hr
    unfold mm_exe at hr ⊢
    cases h1 : mm_me mi with
    | none => rw [h1] at hr; cases hr
    | some e =>
      simp only [h1] at hr ⊢
      split at hr
      · rename_i h2
        rw [if_pos h2]
        exact mm_go_mono ih N N' _ hN hr
      · cases hr
/-- a method's answer -/
def mm_Call (d mi : Nat) (args : List Value) (M : mm_M) (r : Option Value) (M' : mm_M) : Prop := ∃ N, mm_exe mm_cs0 N d mi args M = some (r, M')
/-- a walk from a place in a method's body to its end -/
def mm_Go (cs : mm_Cs) (d own : Nat) (ini : Bool) (rt : Option FieldType) (b : ByteArray) (pc : Nat) (ls : mm_Ls) (st : List Value) (M : mm_M) (r : Option Value) (M' : mm_M) : Prop := ∃ N, mm_go (mm_exe mm_cs0 N d) d cs own ini rt b N (pc, ls, st, M) = some (r, M')
theorem mm_Go.of_step {cs : mm_Cs} {d own : Nat} {ini : Bool} {rt : Option FieldType} {b : ByteArray} {pc pc' : Nat} {ls ls' : mm_Ls} {st st' : List Value} {M M1 : mm_M} {r : Option Value} {M' : mm_M}
    (h : ∃ N0, ∀ N, N0 ≤ N → mm_step (mm_exe mm_cs0 N d) d cs own ini rt b (pc, ls, st, M) = some (.inl (pc', ls', st', M1))) (k : mm_Go cs d own ini rt b pc' ls' st' M1 r M') : mm_Go cs d own ini rt b pc ls st M r M' := by
  obtain ⟨N0, h⟩ := h
  obtain ⟨N, k⟩ := k
  refine ⟨N + N0 + 1, ?_⟩
  have h1 := h (N + N0 + 1) (by omega)
  unfold mm_go
  rw [h1]
  exact mm_go_mono (mm_exe_mono mm_cs0 (by omega) d) N (N + N0) _ (by omega) k
theorem mm_Go.of_end {cs : mm_Cs} {d own : Nat} {ini : Bool} {rt : Option FieldType} {b : ByteArray} {pc : Nat} {ls : mm_Ls} {st : List Value} {M : mm_M} {r : Option Value} {M' : mm_M}
    (h : ∀ c, mm_step c d cs own ini rt b (pc, ls, st, M) = some (.inr (r, M'))) : mm_Go cs d own ini rt b pc ls st M r M' := by
  refine ⟨1, ?_⟩
  unfold mm_go
  rw [h]
theorem mm_Call.of_go {d mi : Nat} {e : mm_Me} {args : List Value} {M : mm_M} {r : Option Value} {M' : mm_M} (he : mm_me mi = some e) (ha : (mm_ar args).length ≤ e.2.2.2.1 ∧ args.length = e.2.2.2.2.2.2.1)
    (h : mm_Go mm_cs0 d e.2.1 e.2.2.2.2.2.1 e.2.2.2.2.1 e.2.2.1 0 (mm_en e.2.2.2.1 args) [] M r M') : mm_Call (d + 1) mi args M r M' := by
  obtain ⟨N, h⟩ := h
  refine ⟨N, ?_⟩
  unfold mm_exe
  rw [he]
  dsimp only
  rw [if_pos ha]
  exact h
