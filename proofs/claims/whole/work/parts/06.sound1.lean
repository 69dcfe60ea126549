/-! THE LITTLE MACHINE IS SOUND: instructions without the heap -/
def mm_v (ad : Nat → Nat) (v : Value) : Value := match v with
  | .ref k => .ref (ad k)
  | w => w
theorem mm_v_cat (ad : Nat → Nat) (v : Value) : (mm_v ad v).category = v.category := by cases v <;> rfl
theorem mm_v_int (ad : Nat → Nat) (x : Int32) : mm_v ad (.int x) = .int x := rfl
theorem mm_2i_inv {f : Int32 → Int32 → Option Value} {st st' : List Value} (h : mm_2i f st = some st') : ∃ x y r v, st = .int y :: .int x :: r ∧ f x y = some v ∧ st' = v :: r := by
  unfold mm_2i at h
  split at h
  · rename_i y x r
    split at h
    · rename_i v hv
      exact ⟨x, y, r, v, rfl, hv, (Option.some.inj h).symm⟩
    · cases h
  · cases h
theorem mm_2l_inv {f : Int64 → Int64 → Value} {st st' : List Value} (h : mm_2l f st = some st') : ∃ x y r, st = .long y :: .long x :: r ∧ st' = f x y :: r := by
  unfold mm_2l at h
  split at h
  · rename_i y x r
    exact ⟨x, y, r, rfl, (Option.some.inj h).symm⟩
  · cases h
theorem mm_1i_inv {f : Int32 → Value} {st st' : List Value} (h : mm_1i f st = some st') : ∃ x r, st = .int x :: r ∧ st' = f x :: r := by
  unfold mm_1i at h
  split at h
  · rename_i x r
    exact ⟨x, r, rfl, (Option.some.inj h).symm⟩
  · cases h
section MMS
variable {p : Program} {l : Launch} {e : Env} {R : Room} {s : State} {m : MethodId} {args : Array Value} {below : List Frame} {meth : Method} {c : Code} {H : Heap} {locs : List Loc} {cells slots : Nat} {Q : State → Prop}
variable {cc : ByteArray} {pc : Nat} {ls : Array Slot} {rest : List Value}
theorem mm_pu_W (ad : Nat → Nat) (hx : p.tables.exec = Jvm.exec) (hb : c.code = cc) {i : Instr} {st st' : List Value} (h : mm_pu i st = some st') (hd : decode cc pc = .ok (i, mm_ln i))
    (k : W p l e R s m args below meth c H locs cells slots Q (F0 m (pc + mm_ln i) ls (st'.map (mm_v ad)))) : W p l e R s m args below meth c H locs cells slots Q (F0 m pc ls (st.map (mm_v ad))) := by
  unfold mm_pu at h
  cases i
  case iconst n => cases h; exact lv_iconst hx hb hd rfl k
  case bipush n => cases h; exact lv_bipush hx hb hd rfl k
  case sipush n => cases h; exact lv_sipush hx hb hd rfl k
  case lconst n => cases h; exact lv_lconst hx hb hd rfl k
  case iadd => dsimp only at h; obtain ⟨x, y, r, v, rfl, hv, rfl⟩ := mm_2i_inv h; cases hv; exact lv_iadd hx hb hd k
  case isub => dsimp only at h; obtain ⟨x, y, r, v, rfl, hv, rfl⟩ := mm_2i_inv h; cases hv; exact lv_isub hx hb hd k
  case imul => dsimp only at h; obtain ⟨x, y, r, v, rfl, hv, rfl⟩ := mm_2i_inv h; cases hv; exact lv_imul hx hb hd k
  case iand => dsimp only at h; obtain ⟨x, y, r, v, rfl, hv, rfl⟩ := mm_2i_inv h; cases hv; exact lv_iand hx hb hd k
  case ior => dsimp only at h; obtain ⟨x, y, r, v, rfl, hv, rfl⟩ := mm_2i_inv h; cases hv; exact lv_ior hx hb hd k
  case ixor => dsimp only at h; obtain ⟨x, y, r, v, rfl, hv, rfl⟩ := mm_2i_inv h; cases hv; exact lv_ixor hx hb hd k
  case ishl => dsimp only at h; obtain ⟨x, y, r, v, rfl, hv, rfl⟩ := mm_2i_inv h; cases hv; exact lv_ishl hx hb hd k
  case ishr => dsimp only at h; obtain ⟨x, y, r, v, rfl, hv, rfl⟩ := mm_2i_inv h; cases hv; exact lv_ishr hx hb hd k
  case iushr => dsimp only at h; obtain ⟨x, y, r, v, rfl, hv, rfl⟩ := mm_2i_inv h; cases hv; exact lv_iushr hx hb hd rfl k
  case idiv =>
    dsimp only at h
    obtain ⟨x, y, r, v, rfl, hv, rfl⟩ := mm_2i_inv h
    by_cases h0 : y = 0
    · rw [if_pos h0] at hv; cases hv
    · rw [if_neg h0] at hv; cases hv; exact lv_idiv hx hb hd h0 k
  case irem =>
    dsimp only at h
    obtain ⟨x, y, r, v, rfl, hv, rfl⟩ := mm_2i_inv h
    by_cases h0 : y = 0
    · rw [if_pos h0] at hv; cases hv
    · rw [if_neg h0] at hv; cases hv; exact lv_irem hx hb hd h0 k
  case ineg => dsimp only at h; obtain ⟨x, r, rfl, rfl⟩ := mm_1i_inv h; exact lv_ineg hx hb hd k
  case i2l => dsimp only at h; obtain ⟨x, r, rfl, rfl⟩ := mm_1i_inv h; exact lv_i2l hx hb hd rfl k
  case i2b => dsimp only at h; obtain ⟨x, r, rfl, rfl⟩ := mm_1i_inv h; exact lv_i2b hx hb hd rfl k
  case i2s => dsimp only at h; obtain ⟨x, r, rfl, rfl⟩ := mm_1i_inv h; exact lv_i2s hx hb hd rfl k
  case l2i =>
    dsimp only at h
    split at h
    · cases h; exact lv_l2i hx hb hd rfl k
    · cases h
  case land => dsimp only at h; obtain ⟨x, y, r, rfl, rfl⟩ := mm_2l_inv h; exact lv_land hx hb hd k
  case lor => dsimp only at h; obtain ⟨x, y, r, rfl, rfl⟩ := mm_2l_inv h; exact lv_lor hx hb hd k
  case lcmp => dsimp only at h; obtain ⟨x, y, r, rfl, rfl⟩ := mm_2l_inv h; exact W.lcmp hx hb hd k
  case lshl =>
    dsimp only at h
    split at h
    · cases h; exact lv_lshl hx hb hd rfl k
    · cases h
  case dup =>
    dsimp only at h
    split at h
    · split at h
      · rename_i hc; cases h; exact lv_dup hx hb hd (by rw [mm_v_cat]; exact hc) k
      · cases h
    · cases h
  case pop =>
    dsimp only at h
    split at h
    · split at h
      · rename_i hc; cases h; exact lv_pop hx hb hd (by rw [mm_v_cat]; exact hc) k
      · cases h
    · cases h
  case dup_x1 =>
    dsimp only at h
    split at h
    · split at h
      · rename_i hc; cases h; exact lv_dup_x1 hx hb hd (by rw [mm_v_cat]; exact hc.1) (by rw [mm_v_cat]; exact hc.2) k
      · cases h
    · cases h
  case dup2 =>
    dsimp only at h
    split at h
    · split at h
      · rename_i hc; cases h; exact lv_dup2_11 hx hb hd (by rw [mm_v_cat]; exact hc.1) (by rw [mm_v_cat]; exact hc.2) k
      · cases h
    · cases h
  all_goals cases h
theorem mm_tg_inv {off : Int} {st : List Value} {q : Nat × List Value} (h : mm_to (mm_tg pc off) st = some q) : (pc : Int) + off = (q.1 : Int) ∧ q.2 = st := by
  unfold mm_to mm_tg at h
  by_cases h0 : 0 ≤ (pc : Int) + off
  · rw [if_pos h0] at h
    cases h
    exact ⟨(Int.toNat_of_nonneg h0).symm, rfl⟩
  · rw [if_neg h0] at h
    cases h
theorem mm_nx_inv {off : Int} {bb : Bool} {st : List Value} {q : Nat × List Value} (h : mm_to (if bb = true then mm_tg pc off else mm_nx pc off) st = some q) : ∃ tgt : Nat, (pc : Int) + off = (tgt : Int) ∧ q.2 = st ∧ ((bb = true ∧ q.1 = tgt) ∨ (bb = false ∧ q.1 = pc + 3)) := by
  unfold mm_to mm_tg mm_nx at h
  by_cases h0 : 0 ≤ (pc : Int) + off
  · refine ⟨((pc : Int) + off).toNat, (Int.toNat_of_nonneg h0).symm, ?_⟩
    cases bb
    · simp only [if_pos h0] at h
      simp at h
      subst h
      exact ⟨rfl, Or.inr ⟨rfl, rfl⟩⟩
    · simp only [if_pos h0] at h
      simp at h
      subst h
      exact ⟨rfl, Or.inl ⟨rfl, rfl⟩⟩
  · cases bb <;> simp [h0] at h
theorem mm_br_W (ad : Nat → Nat) (hx : p.tables.exec = Jvm.exec) (hb : c.code = cc) {i : Instr} {n : Nat} {st : List Value} {q : Nat × List Value} (h : mm_br pc i st = some q) (hn : n = mm_ln i ∨ mm_sw i = true) (hd : decode cc pc = .ok (i, n))
    (k : W p l e R s m args below meth c H locs cells slots Q (F0 m q.1 ls (q.2.map (mm_v ad)))) : W p l e R s m args below meth c H locs cells slots Q (F0 m pc ls (st.map (mm_v ad))) := by
  cases i
  case goto off =>
    rcases hn with hn | hn
    · subst hn
      obtain ⟨h1, h2⟩ := mm_tg_inv h
      rw [h2] at k
      exact lv_goto hx hb hd h1 k
    · cases hn
  case ifCond cd off =>
    rcases hn with hn | hn
    · subst hn
      unfold mm_br at h
      dsimp only at h
      split at h
      · obtain ⟨tgt, h1, h2, h3⟩ := mm_nx_inv h
        rw [h2] at k
        cases cd
        case eq => exact lv_if_eq hx hb hd h1 (fun z => by rcases h3 with ⟨-, g⟩ | ⟨g, -⟩; (rw [g] at k; exact k); exact absurd z (of_decide_eq_false g)) (fun z => by rcases h3 with ⟨g, -⟩ | ⟨-, g⟩; exact absurd (of_decide_eq_true g) z; (rw [g] at k; exact k))
        case ne => exact lv_if_ne hx hb hd h1 (fun z => by rcases h3 with ⟨-, g⟩ | ⟨g, -⟩; (rw [g] at k; exact k); exact absurd z (of_decide_eq_false g)) (fun z => by rcases h3 with ⟨g, -⟩ | ⟨-, g⟩; exact absurd z (of_decide_eq_true g); (rw [g] at k; exact k))
        case lt => exact lv_if_lt hx hb hd h1 (fun z => by rcases h3 with ⟨-, g⟩ | ⟨g, -⟩; (rw [g] at k; exact k); exact absurd z (of_decide_eq_false g)) (fun z => by rcases h3 with ⟨g, -⟩ | ⟨-, g⟩; exact absurd (of_decide_eq_true g) z; (rw [g] at k; exact k))
        case ge => exact lv_if_ge hx hb hd h1 (fun z => by rcases h3 with ⟨-, g⟩ | ⟨g, -⟩; (rw [g] at k; exact k); exact absurd z (of_decide_eq_false g)) (fun z => by rcases h3 with ⟨g, -⟩ | ⟨-, g⟩; exact absurd (of_decide_eq_true g) z; (rw [g] at k; exact k))
        case gt => exact lv_if_gt hx hb hd h1 (fun z => by rcases h3 with ⟨-, g⟩ | ⟨g, -⟩; (rw [g] at k; exact k); exact absurd z (of_decide_eq_false g)) (fun z => by rcases h3 with ⟨g, -⟩ | ⟨-, g⟩; exact absurd (of_decide_eq_true g) z; (rw [g] at k; exact k))
        case le => exact lv_if_le hx hb hd h1 (fun z => by rcases h3 with ⟨-, g⟩ | ⟨g, -⟩; (rw [g] at k; exact k); exact absurd z (of_decide_eq_false g)) (fun z => by rcases h3 with ⟨g, -⟩ | ⟨-, g⟩; exact absurd (of_decide_eq_true g) z; (rw [g] at k; exact k))
      · cases h
    · cases hn
  case if_icmp cd off =>
    rcases hn with hn | hn
    · subst hn
      unfold mm_br at h
      dsimp only at h
      split at h
      · obtain ⟨tgt, h1, h2, h3⟩ := mm_nx_inv h
        rw [h2] at k
        cases cd
        case eq => exact lv_icmp_eq hx hb hd h1 (fun z => by rcases h3 with ⟨-, g⟩ | ⟨g, -⟩; (rw [g] at k; exact k); exact absurd z (of_decide_eq_false g)) (fun z => by rcases h3 with ⟨g, -⟩ | ⟨-, g⟩; exact absurd (of_decide_eq_true g) z; (rw [g] at k; exact k))
        case ne => exact lv_icmp_ne hx hb hd h1 (fun z => by rcases h3 with ⟨-, g⟩ | ⟨g, -⟩; (rw [g] at k; exact k); exact absurd z (of_decide_eq_false g)) (fun z => by rcases h3 with ⟨g, -⟩ | ⟨-, g⟩; exact absurd z (of_decide_eq_true g); (rw [g] at k; exact k))
        case lt => exact lv_icmp_lt hx hb hd h1 (fun z => by rcases h3 with ⟨-, g⟩ | ⟨g, -⟩; (rw [g] at k; exact k); exact absurd z (of_decide_eq_false g)) (fun z => by rcases h3 with ⟨g, -⟩ | ⟨-, g⟩; exact absurd (of_decide_eq_true g) z; (rw [g] at k; exact k))
        case ge => exact lv_icmp_ge hx hb hd h1 (fun z => by rcases h3 with ⟨-, g⟩ | ⟨g, -⟩; (rw [g] at k; exact k); exact absurd z (of_decide_eq_false g)) (fun z => by rcases h3 with ⟨g, -⟩ | ⟨-, g⟩; exact absurd (of_decide_eq_true g) z; (rw [g] at k; exact k))
        case gt => exact lv_icmp_gt hx hb hd h1 (fun z => by rcases h3 with ⟨-, g⟩ | ⟨g, -⟩; (rw [g] at k; exact k); exact absurd z (of_decide_eq_false g)) (fun z => by rcases h3 with ⟨g, -⟩ | ⟨-, g⟩; exact absurd (of_decide_eq_true g) z; (rw [g] at k; exact k))
        case le => exact lv_icmp_le hx hb hd h1 (fun z => by rcases h3 with ⟨-, g⟩ | ⟨g, -⟩; (rw [g] at k; exact k); exact absurd z (of_decide_eq_false g)) (fun z => by rcases h3 with ⟨g, -⟩ | ⟨-, g⟩; exact absurd (of_decide_eq_true g) z; (rw [g] at k; exact k))
      · cases h
    · cases hn
  case tableswitch dflt lo hi offs =>
    unfold mm_br at h
    dsimp only at h
    split at h
    · rename_i x r
      split at h
      · rename_i off ho
        obtain ⟨h1, h2⟩ := mm_tg_inv h
        rw [h2] at k
        unfold mm_ts at ho
        by_cases hr : x.toInt < lo ∨ hi < x.toInt
        · rw [if_pos hr] at ho
          cases ho
          exact lv_tableOut hx hb hd hr h1 k
        · rw [if_neg hr] at ho
          exact lv_tableIn hx hb hd (fun z => hr (Or.inl z)) (fun z => hr (Or.inr z)) ho h1 k
      · cases h
    · cases h
  case lookupswitch dflt ps =>
    unfold mm_br at h
    dsimp only at h
    split at h
    · rename_i x r
      split at h
      · rename_i hp
        obtain ⟨h1, h2⟩ := mm_tg_inv h
        rw [h2] at k
        exact lv_lookup hx hb hd hp rfl h1 k
      · cases h
    · cases h
  all_goals cases h
end MMS
