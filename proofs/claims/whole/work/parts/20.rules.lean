/-! THE LITTLE MACHINE: rules for walks -/
theorem mm_pu_lo {i : Instr} {ls : mm_Ls} {st : List Value} {q : mm_Ls × List Value} (h : mm_lo i ls st = some q) (st2 : List Value) : mm_pu i st2 = none := by cases i <;> first | rfl | cases h
theorem mm_of_br {pc : Nat} {i : Instr} {st : List Value} {q : Nat × List Value} (h : mm_br pc i st = some q) (ls : mm_Ls) (st2 : List Value) : mm_pu i st2 = none ∧ mm_lo i ls st2 = none := by cases i <;> first | exact ⟨rfl, rfl⟩ | cases h
theorem mm_of_rd {cs : mm_Cs} {own : Nat} {i : Instr} {st st' : List Value} {M : mm_M} (h : mm_rd cs own i st M = some st') (pc : Nat) (ls : mm_Ls) (st2 : List Value) : mm_pu i st2 = none ∧ mm_lo i ls st2 = none ∧ mm_br pc i st2 = none := by cases i <;> first | exact ⟨rfl, rfl, rfl⟩ | cases h
theorem mm_of_wr {ini : Bool} {own : Nat} {i : Instr} {st : List Value} {M : mm_M} {q : List Value × mm_M} (h : mm_wr ini own i st M = some q) (cs : mm_Cs) (pc : Nat) (ls : mm_Ls) (st2 : List Value) : mm_pu i st2 = none ∧ mm_lo i ls st2 = none ∧ mm_br pc i st2 = none ∧ mm_rd cs own i st2 M = none := by cases i <;> first | exact ⟨rfl, rfl, rfl, rfl⟩ | cases h
theorem mm_of_re {rt : Option FieldType} {i : Instr} {st : List Value} {v : Option Value} (h : mm_re rt i st = some v) (ini : Bool) (own : Nat) (M : mm_M) (cs : mm_Cs) (pc : Nat) (ls : mm_Ls) (st2 : List Value) : mm_pu i st2 = none ∧ mm_lo i ls st2 = none ∧ mm_br pc i st2 = none ∧ mm_rd cs own i st2 M = none ∧ mm_wr ini own i st2 M = none := by cases i <;> first | exact ⟨rfl, rfl, rfl, rfl, rfl⟩ | cases h
theorem mm_of_ca {cal : mm_Ca} {d own : Nat} {i : Instr} {st : List Value} {M : mm_M} {q : List Value × mm_M} (h : mm_ca cal d own i st M = some q) (ini : Bool) (rt : Option FieldType) (cs : mm_Cs) (n : Nat) (C : mm_Cf) : mm_st1 cs own ini rt i n C = none := by
  cases i
  case invokestatic idx => unfold mm_st1 mm_al; simp [mm_pu, mm_lo, mm_br, mm_rd, mm_wr, mm_re]
  case invokevirtual idx => unfold mm_st1 mm_al; simp [mm_pu, mm_lo, mm_br, mm_rd, mm_wr, mm_re]
  case invokespecial idx => unfold mm_st1 mm_al; simp [mm_pu, mm_lo, mm_br, mm_rd, mm_wr, mm_re]
  all_goals cases h
section MMGO
variable {cs : mm_Cs} {d own : Nat} {ini : Bool} {rt : Option FieldType} {b : ByteArray} {pc : Nat} {ls : mm_Ls} {st : List Value} {M : mm_M} {r : Option Value} {M' : mm_M}
theorem mm_step_st1 {cal : mm_Ca} {i : Instr} {n : Nat} {q : mm_Cf ⊕ (Option Value × mm_M)} (hd : decode b pc = .ok (i, n)) (hn : n = mm_ln i ∨ mm_sw i = true) (h : mm_st1 cs own ini rt i n (pc, ls, st, M) = some q) : mm_step cal d cs own ini rt b (pc, ls, st, M) = some q := by
  unfold mm_step
  dsimp only
  rw [hd]
  dsimp only
  rw [if_pos hn, h]
theorem go_pu {i : Instr} {st' : List Value} (hd : decode b pc = .ok (i, mm_ln i)) (h : mm_pu i st = some st') (k : mm_Go cs d own ini rt b (pc + mm_ln i) ls st' M r M') : mm_Go cs d own ini rt b pc ls st M r M' :=
  mm_Go.of_step ⟨0, fun N _ => mm_step_st1 hd (Or.inl rfl) (by unfold mm_st1; dsimp only; rw [h])⟩ k
theorem go_lo {i : Instr} {q : mm_Ls × List Value} (hd : decode b pc = .ok (i, mm_ln i)) (h : mm_lo i ls st = some q) (k : mm_Go cs d own ini rt b (pc + mm_ln i) q.1 q.2 M r M') : mm_Go cs d own ini rt b pc ls st M r M' :=
  mm_Go.of_step ⟨0, fun N _ => mm_step_st1 hd (Or.inl rfl) (by unfold mm_st1; dsimp only; rw [mm_pu_lo h, h])⟩ k
theorem go_br {i : Instr} {n : Nat} {q : Nat × List Value} (hd : decode b pc = .ok (i, n)) (hn : n = mm_ln i ∨ mm_sw i = true) (h : mm_br pc i st = some q) (k : mm_Go cs d own ini rt b q.1 ls q.2 M r M') : mm_Go cs d own ini rt b pc ls st M r M' :=
  mm_Go.of_step ⟨0, fun N _ => mm_step_st1 hd hn (by unfold mm_st1; dsimp only; rw [(mm_of_br h ls st).1, (mm_of_br h ls st).2, h])⟩ k
theorem go_rd {i : Instr} {st' : List Value} (hd : decode b pc = .ok (i, mm_ln i)) (h : mm_rd cs own i st M = some st') (k : mm_Go cs d own ini rt b (pc + mm_ln i) ls st' M r M') : mm_Go cs d own ini rt b pc ls st M r M' :=
  mm_Go.of_step ⟨0, fun N _ => mm_step_st1 hd (Or.inl rfl) (by unfold mm_st1; dsimp only; rw [(mm_of_rd h pc ls st).1, (mm_of_rd h pc ls st).2.1, (mm_of_rd h pc ls st).2.2, h])⟩ k
theorem go_wr {i : Instr} {st' : List Value} {M1 : mm_M} (hd : decode b pc = .ok (i, mm_ln i)) (h : mm_wr ini own i st M = some (st', M1)) (k : mm_Go cs d own ini rt b (pc + mm_ln i) ls st' M1 r M') : mm_Go cs d own ini rt b pc ls st M r M' :=
  mm_Go.of_step ⟨0, fun N _ => mm_step_st1 hd (Or.inl rfl) (by unfold mm_st1; dsimp only; rw [(mm_of_wr h cs pc ls st).1, (mm_of_wr h cs pc ls st).2.1, (mm_of_wr h cs pc ls st).2.2.1, (mm_of_wr h cs pc ls st).2.2.2, h])⟩ k
theorem go_re {i : Instr} (hd : decode b pc = .ok (i, 1)) (h : mm_re rt i st = some r) (hM : M = M') : mm_Go cs d own ini rt b pc ls st M r M' := by
  subst hM
  have h1 := mm_re_1 h
  have h2 := mm_of_re h ini own M cs pc ls st
  exact mm_Go.of_end (fun c => mm_step_st1 hd (Or.inl h1.2.symm) (by unfold mm_st1; dsimp only; rw [h2.1, h2.2.1, h2.2.2.1, h2.2.2.2.1, h2.2.2.2.2, h]))
theorem go_ca {i : Instr} {st' : List Value} {M1 : mm_M} (hd : decode b pc = .ok (i, 3)) (h : ∃ N0, ∀ N, N0 ≤ N → mm_ca (mm_exe mm_cs0 N d) d own i st M = some (st', M1)) (hl : M1.1.length = M.1.length) (k : mm_Go cs d own ini rt b (pc + 3) ls st' M1 r M') : mm_Go cs d own ini rt b pc ls st M r M' := by
  obtain ⟨N0, h⟩ := h
  refine mm_Go.of_step ⟨N0, fun N hN => ?_⟩ k
  have h0 := h N hN
  unfold mm_step
  dsimp only
  rw [hd]
  dsimp only
  rw [if_pos (Or.inl (mm_ca_3 h0).2.symm), mm_of_ca h0]
  unfold mm_st2
  dsimp only
  rw [h0]
  dsimp only
  rw [if_pos (Or.inl hl)]
/-- a call of an own method -/
theorem go_call {i : Instr} {idx kind mi f na : Nat} {e : mm_Me} {args rest : List Value} {r1 : Option Value} {M1 : mm_M} (hd : decode b pc = .ok (i, 3)) (hi : i = .invokestatic idx ∧ kind = 0 ∨ i = .invokevirtual idx ∧ kind = 1 ∨ i = .invokespecial idx ∧ kind = 2) (hmt : mm_mt own idx = some (mi, f)) (h9 : ¬ 900 ≤ mi) (he : mm_me mi = some e) (hk : mm_kd e = kind) (hna : e.2.2.2.2.2.2.1 = na) (hs : st = args.reverse ++ rest) (hn : args.length = na) (hw : mm_cw rest = true) (hrc : mm_rc e args M = true)
    (hC : mm_Call d mi args M r1 M1) (hl : M1.1.length = M.1.length) (k : mm_Go cs d own ini rt b (pc + 3) ls (r1.toList ++ rest) M1 r M') : mm_Go cs d own ini rt b pc ls st M r M' := by
  obtain ⟨N, hC⟩ := hC
  refine go_ca hd ⟨N, fun N1 hN => ?_⟩ hl k
  have hC1 := mm_exe_mono mm_cs0 hN d _ _ _ _ hC
  subst hs
  subst hna
  have e1 : (List.take e.2.2.2.2.2.2.1 (args.reverse ++ rest)).reverse = args := by
    rw [← hn, show args.length = args.reverse.length by simp, List.take_left, List.reverse_reverse]
  have e2 : List.drop e.2.2.2.2.2.2.1 (args.reverse ++ rest) = rest := by
    rw [← hn, show args.length = args.reverse.length by simp, List.drop_left]
  have hlen : e.2.2.2.2.2.2.1 ≤ (args.reverse ++ rest).length := by
    rw [List.length_append, List.length_reverse, hn]; omega
  have hci : mm_ci (mm_exe mm_cs0 N1 d) d own idx kind (args.reverse ++ rest) M = some (r1.toList ++ rest, M1) := by
    unfold mm_ci
    rw [hmt]
    dsimp only
    rw [if_neg h9, he]
    dsimp only
    rw [e1, e2, if_pos ⟨hk, hlen, hw, hrc⟩, hC1]
    rfl
  rcases hi with ⟨rfl, rfl⟩ | ⟨rfl, rfl⟩ | ⟨rfl, rfl⟩ <;> exact hci
/-- a call of a member of the JDK -/
theorem go_bi {i : Instr} {idx kind mi f : Nat} {args rest : List Value} {r1 : Option Value} {M1 : mm_M} (hd : decode b pc = .ok (i, 3)) (hi : i = .invokestatic idx ∧ kind = 0 ∨ i = .invokevirtual idx ∧ kind = 1 ∨ i = .invokespecial idx ∧ kind = 2) (hmt : mm_mt own idx = some (mi, f)) (h9 : 900 ≤ mi) (hk : mm_bk mi = kind) (hs : st = args.reverse ++ rest) (hn : args.length = mm_nb mi) (hw : mm_cw rest = true)
    (hC : mm_bi d mi args M = some (r1, M1)) (hl : M1.1.length = M.1.length) (k : mm_Go cs d own ini rt b (pc + 3) ls (r1.toList ++ rest) M1 r M') : mm_Go cs d own ini rt b pc ls st M r M' := by
  refine go_ca hd ⟨0, fun N1 hN => ?_⟩ hl k
  subst hs
  have e1 : (List.take (mm_nb mi) (args.reverse ++ rest)).reverse = args := by
    rw [← hn, show args.length = args.reverse.length by simp, List.take_left, List.reverse_reverse]
  have e2 : List.drop (mm_nb mi) (args.reverse ++ rest) = rest := by
    rw [← hn, show args.length = args.reverse.length by simp, List.drop_left]
  have hlen : mm_nb mi ≤ (args.reverse ++ rest).length := by
    rw [List.length_append, List.length_reverse, hn]; omega
  have hci : mm_ci (mm_exe mm_cs0 N1 d) d own idx kind (args.reverse ++ rest) M = some (r1.toList ++ rest, M1) := by
    unfold mm_ci
    rw [hmt]
    dsimp only
    rw [if_pos h9, e1, e2, if_pos ⟨hlen, hw, hk⟩, hC]
    rfl
  rcases hi with ⟨rfl, rfl⟩ | ⟨rfl, rfl⟩ | ⟨rfl, rfl⟩ <;> exact hci
end MMGO
