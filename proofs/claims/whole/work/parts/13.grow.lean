/-! THE LITTLE MACHINE: cells are never taken away -/
def mm_gr (M M' : mm_M) : Prop := ∃ l, M'.1 = M.1 ++ l
theorem mm_gr.rf {M : mm_M} : mm_gr M M := ⟨[], by simp⟩
theorem mm_gr.eq {M M' : mm_M} (h : M'.1 = M.1) : mm_gr M M' := ⟨[], by simp [h]⟩
theorem mm_gr.tr {M1 M2 M3 : mm_M} (h : mm_gr M1 M2) (g : mm_gr M2 M3) : mm_gr M1 M3 := by
  obtain ⟨a, h⟩ := h
  obtain ⟨b, g⟩ := g
  exact ⟨a ++ b, by rw [g, h, List.append_assoc]⟩
theorem mm_gr.len {M M' : mm_M} (h : mm_gr M M') : M.1.length ≤ M'.1.length := by
  obtain ⟨a, h⟩ := h
  rw [h, List.length_append]
  omega
theorem mm_gr.sum {M M' : mm_M} (h : mm_gr M M') : mm_S M.1 ≤ mm_S M'.1 := by
  obtain ⟨a, h⟩ := h
  rw [h]
  unfold mm_S
  rw [List.map_append, List.sum_append]
  omega
theorem mm_pf_gr {M M' : mm_M} {k j t : Nat} {v : Value} (h : mm_pf M k j t v = some M') : M'.1 = M.1 := by
  unfold mm_pf at h
  split at h
  · split at h
    · cases h; rfl
    · cases h
  · split at h
    · cases h; rfl
    · cases h
  · cases h
theorem mm_wr_gr {ini : Bool} {own : Nat} {i : Instr} {st : List Value} {M : mm_M} {q : List Value × mm_M} (h : mm_wr ini own i st M = some q) : q.2.1 = M.1 := by
  unfold mm_wr at h
  cases i
  case putfield idx =>
    dsimp only at h
    split at h
    · split at h
      · split at h
        · split at h
          · rename_i h1
            cases h
            exact mm_pf_gr h1
          · cases h
        · cases h
      · cases h
    · cases h
  case iastore =>
    dsimp only at h
    split at h
    · split at h
      · split at h
        · cases h; rfl
        · cases h
      · cases h
    · cases h
  case lastore =>
    dsimp only at h
    split at h
    · split at h
      · split at h
        · cases h; rfl
        · cases h
      · cases h
    · cases h
  case aastore =>
    dsimp only at h
    split at h
    · split at h
      · split at h
        · split at h
          · cases h; rfl
          · cases h
        · cases h
      · cases h
    · cases h
  all_goals cases h
theorem mm_al_gr {own : Nat} {i : Instr} {ls : mm_Ls} {st : List Value} {M : mm_M} {q : List Value × mm_M} (h : mm_al own i ls st M = some q) : mm_gr M q.2 := by
  unfold mm_al at h
  split at h
  · cases i
    case new idx =>
      dsimp only at h
      split at h
      · cases h; exact ⟨_, rfl⟩
      · cases h
    case newarray t =>
      dsimp only at h
      split at h
      · split at h
        · cases h
        · cases t
          case int => cases h; exact ⟨_, rfl⟩
          case long => cases h; exact ⟨_, rfl⟩
          all_goals cases h
      · cases h
    case anewarray idx =>
      dsimp only at h
      split at h
      · split at h
        · cases h
        · split at h
          · split at h
            · cases h; exact ⟨_, rfl⟩
            · cases h
          · cases h
      · cases h
    all_goals cases h
  · cases h
theorem mm_bi_gr {d b : Nat} {a : List Value} {M : mm_M} {q : Option Value × mm_M} (h : mm_bi d b a M = some q) : q.2.1 = M.1 := by
  unfold mm_bi at h
  split at h
  · split at h
    · cases h; rfl
    · cases h
  · split at h
    · cases h; rfl
    · cases h
  · split at h
    · cases h; rfl
    · cases h
  · split at h
    · cases h; rfl
    · cases h
  · split at h
    · split at h
      · cases h; rfl
      · cases h
    · cases h
  · split at h
    · split at h
      · cases h; rfl
      · cases h
    · cases h
  · split at h
    · split at h
      · cases h
      · split at h
        · split at h
          · split at h
            · split at h
              · cases h; rfl
              · split at h
                · cases h; rfl
                · cases h
            · cases h
          · cases h
        · cases h
    · cases h
  · cases h
def mm_gc (c : mm_Ca) : Prop := ∀ mi a M r, c mi a M = some r → mm_gr M r.2
theorem mm_pop_inv {o : Option (Option Value × mm_M)} {rest : List Value} {q : List Value × mm_M} (h : mm_pop o rest = some q) : ∃ r M', o = some (r, M') ∧ q = (r.toList ++ rest, M') := by
  unfold mm_pop at h
  split at h
  · exact ⟨_, _, rfl, (Option.some.inj h).symm⟩
  · cases h
/-- a call, taken apart -/
theorem mm_ci_inv {cal : mm_Ca} {d own idx kind : Nat} {st : List Value} {M : mm_M} {q : List Value × mm_M} (h : mm_ci cal d own idx kind st M = some q) :
    ∃ mi f r M', mm_mt own idx = some (mi, f) ∧ ((900 ≤ mi ∧ mm_bk mi = kind ∧ mm_nb mi ≤ st.length ∧ mm_cw (st.drop (mm_nb mi)) = true ∧ mm_bi d mi (st.take (mm_nb mi)).reverse M = some (r, M') ∧ q = (r.toList ++ st.drop (mm_nb mi), M')) ∨
      (mi < 900 ∧ ∃ e, mm_me mi = some e ∧ mm_kd e = kind ∧ e.2.2.2.2.2.2.1 ≤ st.length ∧ mm_cw (st.drop e.2.2.2.2.2.2.1) = true ∧ mm_rc e (st.take e.2.2.2.2.2.2.1).reverse M = true ∧ cal mi (st.take e.2.2.2.2.2.2.1).reverse M = some (r, M') ∧ q = (r.toList ++ st.drop e.2.2.2.2.2.2.1, M'))) := by
  unfold mm_ci at h
  split at h
  · rename_i z hz
    obtain ⟨mi, f⟩ := z
    dsimp only at h
    split at h
    · rename_i h9
      split at h
      · rename_i h1
        obtain ⟨r, M', g1, g2⟩ := mm_pop_inv h
        exact ⟨mi, f, r, M', hz, Or.inl ⟨h9, h1.2.2, h1.1, h1.2.1, g1, g2⟩⟩
      · cases h
    · rename_i h9
      split at h
      · rename_i e he
        split at h
        · rename_i h1
          obtain ⟨r, M', g1, g2⟩ := mm_pop_inv h
          exact ⟨mi, f, r, M', hz, Or.inr ⟨by omega, e, he, h1.1, h1.2.1, h1.2.2.1, h1.2.2.2, g1, g2⟩⟩
        · cases h
      · cases h
  · cases h
theorem mm_ci_gr {cal : mm_Ca} (hc : mm_gc cal) {d own idx kind : Nat} {st : List Value} {M : mm_M} {q : List Value × mm_M} (h : mm_ci cal d own idx kind st M = some q) : mm_gr M q.2 := by
  obtain ⟨mi, f, r, M', -, ⟨-, -, -, -, h1, rfl⟩ | ⟨-, e, -, -, -, -, -, h1, rfl⟩⟩ := mm_ci_inv h
  · exact mm_gr.eq (mm_bi_gr h1)
  · exact hc _ _ _ _ h1
theorem mm_ca_gr {cal : mm_Ca} (hc : mm_gc cal) {d own : Nat} {i : Instr} {st : List Value} {M : mm_M} {q : List Value × mm_M} (h : mm_ca cal d own i st M = some q) : mm_gr M q.2 := by
  cases i <;> first | exact mm_ci_gr hc h | (simp [mm_ca] at h)
theorem mm_step_gr {cal : mm_Ca} (hc : mm_gc cal) {d : Nat} {cs : mm_Cs} {own : Nat} {ini : Bool} {rt : Option FieldType} {b : ByteArray} {C : mm_Cf} {r : mm_Cf ⊕ (Option Value × mm_M)} (hr : mm_step cal d cs own ini rt b C = some r) : match r with
    | .inl C' => mm_gr C.2.2.2 C'.2.2.2
    | .inr q => q.2 = C.2.2.2 := by
  unfold mm_step at hr
  split at hr
  · cases hr
  · split at hr
    · split at hr
      · rename_i r1 h1
        cases hr
        unfold mm_st1 at h1
        split at h1
        · cases h1; exact mm_gr.rf
        · split at h1
          · cases h1; exact mm_gr.rf
          · split at h1
            · cases h1; exact mm_gr.rf
            · split at h1
              · cases h1; exact mm_gr.rf
              · split at h1
                · rename_i q h2
                  cases h1
                  exact mm_gr.eq (mm_wr_gr h2)
                · split at h1
                  · cases h1; rfl
                  · split at h1
                    · rename_i q h2
                      cases h1
                      exact mm_al_gr h2
                    · cases h1
      · unfold mm_st2 at hr
        split at hr
        · rename_i q h2
          split at hr
          · cases hr
            exact mm_ca_gr hc h2
          · cases hr
        · cases hr
    · cases hr
theorem mm_go_gr {cal : mm_Ca} (hc : mm_gc cal) {d : Nat} {cs : mm_Cs} {own : Nat} {ini : Bool} {rt : Option FieldType} {b : ByteArray} : ∀ (n : Nat) (C : mm_Cf) (r : Option Value × mm_M), mm_go cal d cs own ini rt b n C = some r → mm_gr C.2.2.2 r.2 := by
  intro n
  induction n with
  | zero => intro C r h; cases h
  | succ n ih =>
    intro C r h
    unfold mm_go at h
    cases h1 : mm_step cal d cs own ini rt b C with
    | none => rw [h1] at h; cases h
    | some q =>
      rw [h1] at h
      have h2 := mm_step_gr hc h1
      cases q with
      | inl C' => exact h2.tr (ih C' r h)
      | inr r0 =>
        cases h
        dsimp only at h2
        rw [h2]
        exact mm_gr.rf
theorem mm_exe_gr (cs : mm_Cs) (N : Nat) : ∀ d, mm_gc (mm_exe cs N d) := by
  intro d
  induction d with
  | zero => intro mi a M r h; cases h
  | succ d ih =>
    intro mi a M r h
    unfold mm_exe at h
    split at h
    · split at h
      · exact mm_go_gr ih _ _ _ h
      · cases h
    · cases h
