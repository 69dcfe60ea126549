/-! THE LITTLE MACHINE IS SOUND: a method -/
theorem mm_sl_len (ad : Nat → Nat) : ∀ args : List Value, (lg_sl (args.map (mm_v ad))).length = (mm_ar args).length
  | [] => rfl
  | v :: r => by
    have ih := mm_sl_len ad r
    show (lg_sl (mm_v ad v :: r.map (mm_v ad))).length = _
    unfold lg_sl at ih ⊢
    rw [List.flatMap_cons, List.length_append, ih, mm_v_cat, show mm_ar (v :: r) = (if v.category = 2 then some v :: none :: mm_ar r else some v :: mm_ar r) from rfl]
    split
    · simp; omega
    · simp; omega
theorem mm_args_in (ad : Nat → Nat) : ∀ (args : List Value) (o j : Nat) (v : Value), (mm_ar args)[j]? = some (some v) → (o + j, mm_v ad v) ∈ lv_args o (args.map (mm_v ad))
  | [], _, _, _, h => by simp [mm_ar] at h
  | w :: r, o, j, v, h => by
    show _ ∈ lv_args o (mm_v ad w :: r.map (mm_v ad))
    unfold lv_args
    rw [mm_v_cat]
    unfold mm_ar at h
    split at h
    · rename_i hc
      rw [if_pos hc]
      match j, h with
      | 0, h => simp at h; subst h; exact List.mem_cons_self
      | 1, h => simp at h
      | j + 2, h =>
        have := mm_args_in ad r (o + 2) j v (by simpa using h)
        rw [show o + (j + 2) = o + 2 + j by omega]
        exact List.mem_cons_of_mem _ this
    · rename_i hc
      rw [if_neg hc]
      match j, h with
      | 0, h => simp at h; subst h; exact List.mem_cons_self
      | j + 1, h =>
        have := mm_args_in ad r (o + 1) j v (by simpa using h)
        rw [show o + (j + 1) = o + 1 + j by omega]
        exact List.mem_cons_of_mem _ this
theorem mm_en_L {ad : Nat → Nat} {n : Nat} {args : List Value} {la : Array Slot} (h : lv_has la n (lv_args 0 (args.map (mm_v ad)))) (hn : (mm_ar args).length ≤ n) : mm_L ad la n (mm_en n args) := by
  refine ⟨⟨h.1, h.2.1, fun q hq => h.2.2 q ?_⟩, ?_⟩
  · obtain ⟨j, v, h1, h2⟩ := mm_lvs_in _ _ _ hq
    unfold mm_en at h1
    by_cases hj : j < (mm_ar args).length
    · rw [List.getElem?_append_left hj] at h1
      rw [h2]
      exact mm_args_in ad args 0 j v h1
    · rw [List.getElem?_append_right (by omega), List.getElem?_replicate] at h1
      split at h1 <;> simp at h1
  · unfold mm_en
    rw [List.length_append, List.length_replicate]
    omega
theorem mm_re_inv {rt : Option FieldType} {i : Instr} {st : List Value} {r : Option Value} (h : mm_re rt i st = some r) :
    (∃ v, i = .ireturn ∧ st = [.int v] ∧ r = some (.int v) ∧ (rt = some .int ∨ (rt = some .boolean ∧ (v = 0 ∨ v = 1)))) ∨ (∃ v, i = .lreturn ∧ st = [.long v] ∧ r = some (.long v) ∧ rt = some .long) ∨ (∃ a, i = .areturn ∧ st = [.ref a] ∧ r = some (.ref a) ∧ rt = some (.object "java/lang/String")) ∨ (i = .return_ ∧ st = [] ∧ r = none ∧ rt = none) := by
  unfold mm_re at h
  cases i
  case ireturn =>
    dsimp only at h
    split at h
    · split at h
      · rename_i v hc
        cases h
        exact Or.inl ⟨_, rfl, rfl, rfl, hc⟩
      · cases h
    · cases h
  case lreturn =>
    dsimp only at h
    split at h
    · split at h
      · rename_i v hc
        cases h
        exact Or.inr (Or.inl ⟨_, rfl, rfl, rfl, hc⟩)
      · cases h
    · cases h
  case areturn =>
    dsimp only at h
    split at h
    · split at h
      · rename_i v hc
        cases h
        exact Or.inr (Or.inr (Or.inl ⟨_, rfl, rfl, rfl, hc⟩))
      · cases h
    · cases h
  case return_ =>
    dsimp only at h
    split at h
    · split at h
      · rename_i hc
        cases h
        exact Or.inr (Or.inr (Or.inr ⟨rfl, rfl, rfl, hc⟩))
      · cases h
    · cases h
  all_goals cases h
set_option maxHeartbeats 2000000 in
theorem mm_sound (l : Launch) (D : va_G) (cs : mm_Cs) (N : Nat) (hcs : ∀ k q, cs k = some q → 1000 ≤ k) : ∀ d, mm_Ok l D cs N d := by
  intro d
  induction d with
  | zero =>
    intro mi e args M r M' he h
    cases h
  | succ d ih =>
    intro mi e args0 M r M' he h ad dA sz
    unfold mm_exe at h
    rw [he] at h
    dsimp only at h
    split at h
    · rename_i ha
      obtain ⟨ps, hck⟩ := mm_me_ck he
      obtain ⟨y, ow, b, mL, rt, in1, na, sta⟩ := e
      unfold mm_ckE at hck
      dsimp only at hck h ha
      simp only [Bool.and_eq_true, decide_eq_true_eq] at hck
      obtain ⟨⟨⟨⟨⟨⟨k1, k2⟩, k3⟩, k4⟩, k5⟩, k6⟩, k7⟩ := hck
      refine Met.ofW (cc := b) (maxL := mL) (ret := rt) k5 rfl ?_
      intro p e s m args below meth c s₁ B hml hv
      obtain ⟨rfl, hsz, hH, hK⟩ := hv
      subst hsz
      have hr := B.returns
      have hlocks := B.notSynchronized
      have hts0 := atoms_spec (ws := mm_mw (y, ow, b, mL, rt, in1, na, sta)) B.pre
      have F : mm_Fx p s m ((args0.map (mm_v ad)).toArray) meth c ow b mL rt in1 := by
        refine ⟨B.exec, B.bytes, hml, ?_, fun w hw => hts0 w (List.mem_cons_of_mem _ hw), B.notSynchronized, hr, fun z => ?_⟩
        · rw [← k2]; exact findClass_of_methodNamed B.named
        · rw [(name_of_methodNamed B.named B.method).1]
          subst z
          by_cases hs : sta = true
          · rw [if_pos hs] at k7
            simp at k7
          · rw [if_neg hs, if_pos rfl] at k7
            simp only [Bool.and_eq_true, decide_eq_true_eq] at k7
            exact k7.2.1
      obtain ⟨hP, hD0, hKt, hRf, h9⟩ := hH
      have hD := hD0.self (sz := s.heap.size)
      have hA : ∀ q : Nat, s.heap.size ≤ q → va_A (mm_ws ad dA M) s.heap.size q := fun q h => Or.inr h
      have hS : va_S (va_A (mm_ws ad dA M) s.heap.size) s.heap s.heap [] := va_S.rf
      have hl := lv_entry (args0.map (mm_v ad)) (n := mL) (by rw [mm_sl_len]; exact ha.1)
      rw [lg_entry_eq]
      generalize (lg_sl (args0.map (mm_v ad)) ++ List.replicate (mL - (lg_sl (args0.map (mm_v ad))).length) Slot.unset).toArray = la at hl ⊢
      have hL := mm_en_L hl ha.1
      refine mm_go_W (Q := _) ih (fun _ _ z => z) hcs F hA ⟨rfl, rfl⟩ N 0 _ [] M h ad dA s.heap [] la 0 0 ⟨hP, hD, hKt, hRf, h9⟩ hK hS hL (by show 0 + _ ≤ M'.1.length - M.1.length; omega) (by show 0 + _ ≤ mm_S M'.1 - mm_S M.1; omega) ?_
      intro ad1 dA1 H1 locs1 la1 pc1 st1 i hag hH1 hS1 hd1 hre
      rw [Nat.zero_add, Nat.zero_add]
      have hq : ∀ t : State, t.heap = H1 → s.WarmedH t.vm → mm_Qc D ad M M' (va_A (mm_ws ad dA M) s.heap.size) r ((args0.map (mm_v ad)).toArray) s (.returned (r.map (mm_v ad1))) t := by
        intro t ht hW
        exact ⟨ad1, dA1, rfl, hag, by rw [ht]; exact hH1.moved hW.alike (fun _ z => z), hS1.F ht⟩
      rcases mm_re_inv hre with ⟨v, rfl, rfl, rfl, z | ⟨z, z1⟩⟩ | ⟨v, rfl, rfl, rfl, z⟩ | ⟨a, rfl, rfl, rfl, z⟩ | ⟨rfl, rfl, rfl, z⟩
      · exact W.iret B.exec B.bytes (hr.trans z) hq hS1.2.2 hd1
      · exact W.zret B.exec B.bytes (hr.trans z) (by rcases z1 with rfl | rfl <;> rfl) hq hS1.2.2 hd1
      · exact W.lret B.exec B.bytes (hr.trans z) hq hS1.2.2 hd1
      · exact W.aret B.exec B.bytes (hr.trans z) (Or.inl ⟨_, rfl⟩) (Or.inr ⟨_, rfl⟩) hq hS1.2.2 hd1
      · exact W.vret B.exec B.bytes (hr.trans z) hq hS1.2.2 hd1
    · cases h
