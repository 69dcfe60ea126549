/-! THE LAW: its rules -/

def lw_cs (n : Nat) (xs : Nat → Int32) : mm_Cs := fun k => if k = 1004 then some (n, xs) else mm_cs0 k
theorem gp_rd {cs : mm_Cs} {d own : Nat} {ini : Bool} {rt : Option FieldType} {b : ByteArray} {pc : Nat} {ls : mm_Ls} {st st' : List Value} {M : mm_M} {Q : Option Value → mm_M → Prop} {i : Instr} (hd : decode b pc = .ok (i, mm_ln i)) (h : mm_rd cs own i st M = some st') (k : gP cs d own ini rt b (pc + mm_ln i) ls st' M Q) : gP cs d own ini rt b pc ls st M Q := gP.lift (fun _ _ kk0 => go_rd hd h kk0) k
theorem gp_ldc2 {cs : mm_Cs} {d : Nat} {ini : Bool} {rt : Option FieldType} {b : ByteArray} {pc : Nat} {ls : mm_Ls} {st : List Value} {M : mm_M} {Q : Option Value → mm_M → Prop} (hd : decode b pc = .ok (.ldc2_w 18, 3)) (k : gP cs d 10 ini rt b (pc + 3) ls (.long 4294967295 :: st) M Q) : gP cs d 10 ini rt b pc ls st M Q := gp_rd (i := .ldc2_w 18) hd rfl k
theorem gp_lens {n : Nat} {xs : Nat → Int32} {d : Nat} {ini : Bool} {rt : Option FieldType} {b : ByteArray} {pc : Nat} {ls : mm_Ls} {st : List Value} {M : mm_M} {Q : Option Value → mm_M → Prop} (hd : decode b pc = .ok (.arraylength, 1)) (k : gP (lw_cs n xs) d 10 ini rt b (pc + 1) ls (.int (nI n) :: st) M Q) : gP (lw_cs n xs) d 10 ini rt b pc ls (.ref 1004 :: st) M Q := gp_rd (i := .arraylength) hd rfl k
theorem mm_go_re {cal : mm_Ca} {d : Nat} {cs : mm_Cs} {own : Nat} {ini : Bool} {rt : Option FieldType} {b : ByteArray} : ∀ (n : Nat) (C : mm_Cf) (r : Option Value) (M' : mm_M), mm_go cal d cs own ini rt b n C = some (r, M') → ∃ i st, mm_re rt i st = some r := by
  intro n
  induction n with
  | zero => intro C r M' h; cases h
  | succ n ih =>
    intro C r M' h
    unfold mm_go at h
    cases h1 : mm_step cal d cs own ini rt b C with
    | none => rw [h1] at h; cases h
    | some q =>
      rw [h1] at h
      cases q with
      | inl C' => exact ih C' r M' h
      | inr q =>
        cases h
        obtain ⟨pc, ls, st, M⟩ := C
        obtain ⟨i, -, g2, -⟩ := mm_step_end h1
        exact ⟨i, st, g2⟩
theorem call_re {d mi : Nat} {e : mm_Me} {args : List Value} {M M' : mm_M} {r : Option Value} (he : mm_me mi = some e) (h : mm_Call d mi args M r M') : ∃ i st, mm_re e.2.2.2.2.1 i st = some r := by
  obtain ⟨N, h⟩ := h
  cases d with
  | zero => cases h
  | succ d =>
    unfold mm_exe at h
    rw [he] at h
    dsimp only at h
    split at h
    · exact mm_go_re _ _ _ _ h
    · cases h
theorem call_int {d mi : Nat} {e : mm_Me} {args : List Value} {M M' : mm_M} {v : Value} (he : mm_me mi = some e) (hrt : e.2.2.2.2.1 = some .int) (h : mm_Call d mi args M (some v) M') : ∃ x, v = .int x := by
  obtain ⟨i, st, hre⟩ := call_re he h
  rw [hrt] at hre
  rcases mm_re_inv hre with ⟨x, -, -, e1, -⟩ | ⟨x, -, -, -, e2⟩ | ⟨x, -, -, -, e2⟩ | ⟨-, -, e1, -⟩
  · exact ⟨x, Option.some.inj e1⟩
  · cases e2
  · cases e2
  · cases e1
theorem call_long {d mi : Nat} {e : mm_Me} {args : List Value} {M M' : mm_M} {v : Value} (he : mm_me mi = some e) (hrt : e.2.2.2.2.1 = some .long) (h : mm_Call d mi args M (some v) M') : ∃ x, v = .long x := by
  obtain ⟨i, st, hre⟩ := call_re he h
  rw [hrt] at hre
  rcases mm_re_inv hre with ⟨x, -, -, -, e2 | e2⟩ | ⟨x, -, -, e1, -⟩ | ⟨x, -, -, -, e2⟩ | ⟨-, -, e1, -⟩
  · cases e2
  · cases e2.1
  · exact ⟨x, Option.some.inj e1⟩
  · cases e2
  · cases e1
theorem lg_cmp_s (x : Int64) : lg_cmp x x = 0 := by unfold lg_cmp; simp
