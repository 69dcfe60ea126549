/-! THE LITTLE MACHINE IS SOUND: making -/
def mm_ckL (own : Nat) (e : Nat × Nat) : Bool := match vwCl[e.2]? with
  | some q => mm_wk (.classLink (mm_RN own) e.1 q.1) && mm_wk (.instantiable q.1 q.2.2) && mm_wk (.initialized q.1) && decide (e.2 < 10)
  | none => false
set_option maxRecDepth 100000 in
theorem mm_ckL_0 : ∀ own, own < 11 → (mm_cl own).all (mm_ckL own) = true := by decide +kernel
theorem mm_cl_big {own : Nat} (h : 11 ≤ own) : mm_cl own = [] := by
  obtain ⟨k, rfl⟩ : ∃ k, own = k + 11 := ⟨own - 11, by omega⟩
  rfl
theorem mm_cls_ck {own idx r : Nat} (h : mm_cls own idx = some r) : mm_ckL own (idx, r) = true := by
  have h1 : (idx, r) ∈ mm_cl own := mm_find h
  by_cases z : own < 11
  · exact List.all_eq_true.mp (mm_ckL_0 own z) _ h1
  · rw [mm_cl_big (by omega)] at h1; cases h1
def mm_ckY (c : Nat) : Bool := match vwCl[c]? with
  | some q => (List.range q.2.2).all (fun j => mm_ckT (mm_ft c j) (parseFieldDescriptor (q.2.1 j).2.2.1))
  | none => false
set_option maxRecDepth 100000 in
theorem mm_ckY_all : ∀ c, c < 10 → mm_ckY c = true := by decide +kernel
theorem mm_acI : Cond.arrayClass .int ∈ mm_MW := mm_wk_in (by decide +kernel)
theorem mm_acL : Cond.arrayClass .long ∈ mm_MW := mm_wk_in (by decide +kernel)
def mm_sz (q : Nat × Nat) : Nat := if q.1 < 100 then mm_fn q.1 else q.2
def mm_S (l : List (Nat × Nat)) : Nat := (l.map mm_sz).sum
theorem mm_S_push (l : List (Nat × Nat)) (q : Nat × Nat) : mm_S (l ++ [q]) = mm_S l + mm_sz q := by simp [mm_S]
theorem mm_vo_ad {ad : Nat → Nat} {n q : Nat} {v : Value} (hn : n < 900) (h : mm_vo n v = true) : mm_v (mm_ad ad n q) v = mm_v ad v := by
  cases v with
  | ref a =>
    have h1 : a < n ∨ 1000 ≤ a := of_decide_eq_true h
    show Value.ref _ = Value.ref _
    unfold mm_ad
    have h2 : ¬ a = n := by
      intro z
      rcases h1 with y | y
      · exact absurd y (by rw [z]; exact Nat.lt_irrefl n)
      · rw [z] at y
        exact absurd hn (Nat.not_lt.mpr (Nat.le_trans (by decide) y))
    rw [if_neg h2]
  | _ => rfl
theorem mm_st_ad {ad : Nat → Nat} {n q : Nat} {st : List Value} (hn : n < 900) (h : st.all (mm_vo n) = true) : st.map (mm_v (mm_ad ad n q)) = st.map (mm_v ad) :=
  List.map_congr_left (fun v hv => mm_vo_ad hn (List.all_eq_true.mp h v hv))
theorem mm_lvs_ad {ad : Nat → Nat} {n q : Nat} (hn : n < 900) : ∀ (ls : mm_Ls) (i : Nat), mm_vl n ls = true → mm_lvs (mm_ad ad n q) i ls = mm_lvs ad i ls
  | [], _, _ => rfl
  | none :: t, i, h => by
    unfold mm_vl at h
    rw [List.all_cons, Bool.and_eq_true] at h
    exact mm_lvs_ad hn t (i + 1) h.2
  | some v :: t, i, h => by
    unfold mm_vl at h
    rw [List.all_cons, Bool.and_eq_true] at h
    show (_, _) :: _ = (_, _) :: _
    rw [mm_vo_ad hn h.1, mm_lvs_ad hn t (i + 1) h.2]
theorem mm_L.ad {ad : Nat → Nat} {n q nL : Nat} {la : Array Slot} {ls : mm_Ls} (hn : n < 900) (h : mm_L ad la nL ls) (hv : mm_vl n ls = true) : mm_L (mm_ad ad n q) la nL ls := ⟨by rw [mm_lvs_ad hn ls 0 hv]; exact h.1, h.2⟩
theorem mm_H.push {D : va_G} {ad : Nat → Nat} {dA : Nat → ClassId} {M : mm_M} {A : Nat → Prop} {s : State} {H H1 : Heap} {q : Nat} {cA : ClassId} {sh : Nat × Nat} {e : va_E} (h : mm_H D ad dA M A s H) (hn : M.1.length < 900) (he : e = mm_cel (mm_ad ad M.1.length q) cA sh (fun _ => none) (fun _ => 0) (fun _ => 0))
    (hP : va_P D vwCl (mm_ws ad dA M ++ [(q, e)]) H1) (hD : va_D A (mm_ws ad dA M ++ [(q, e)])) (hK : ∃ tys, va_K D vwCl tys s ∧ (∀ k t n, M.1[k]? = some (t, n) → 100 ≤ t → ∃ t0 : Nat, tys[t0]? = some (dA k, mm_ty t)) ∧ (100 ≤ sh.1 → ∃ t0 : Nat, tys[t0]? = some (cA, mm_ty sh.1))) :
    mm_H D (mm_ad ad M.1.length q) (mm_ad dA M.1.length cA) (mm_nw M sh) A s H1 := by
  obtain ⟨-, -, -, hR0, -⟩ := h
  rw [mm_ws_push hR0 he] at hP hD
  obtain ⟨tys, h1, h2, h3⟩ := hK
  refine ⟨hP, hD, ⟨tys, h1, fun k t n hk ht => ?_⟩, fun k j a hr => ?_, ?_⟩
  · have hk' : (M.1 ++ [sh])[k]? = some (t, n) := hk
    unfold mm_ad
    by_cases hl : k < M.1.length
    · rw [List.getElem?_append_left hl] at hk'
      rw [if_neg (by omega)]
      exact h2 k t n hk' ht
    · have hk2 : k = M.1.length := by
        have := (List.getElem?_eq_some_iff.mp hk').1
        rw [List.length_append] at this
        simp at this
        omega
      subst hk2
      simp at hk'
      subst hk'
      rw [if_pos rfl]
      exact h3 ht
  · have hr' : mm_z M.2.1 M.1.length none k j = some a := hr
    unfold mm_z at hr'
    show a < (M.1 ++ [sh]).length
    rw [List.length_append]
    split at hr'
    · cases hr'
    · have := hR0 k j a hr'
      omega
  · show (M.1 ++ [sh]).length ≤ 900
    rw [List.length_append]
    simp
    omega
section MMA
variable {p : Program} {l : Launch} {e : Env} {R : Room} {s : State} {m : MethodId} {args : Array Value} {below : List Frame} {meth : Method} {c : Code} {H : Heap} {locs : List Loc} {cells slots : Nat} {Q : State → Prop}
variable {cc : ByteArray} {pc : Nat} {la : Array Slot} {nL : Nat} {D : va_G} {ad : Nat → Nat} {dA : Nat → ClassId} {M : mm_M} {A : Nat → Prop} {cs : mm_Cs} {own : Nat} {rt : Option FieldType} {ini : Bool}
set_option maxHeartbeats 1000000 in
theorem mm_al_W (F : mm_Fx p s m args meth c own cc nL rt ini) (hH : mm_H D ad dA M A s H) (hK : mm_Kc cs ad A s s.heap) (hS : va_S A s.heap H locs) (hA : ∀ q, s.heap.size ≤ q → A q) {i : Instr} {ls : mm_Ls} {st : List Value} {q : List Value × mm_M} (h : mm_al own i ls st M = some q) (hd : decode cc pc = .ok (i, mm_ln i)) (hL : mm_L ad la nL ls)
    (hc : cells + (q.2.1.length - M.1.length) ≤ R.cells) (hs : slots + (mm_S q.2.1 - mm_S M.1) ≤ R.slots)
    (k : ∀ (ad1 : Nat → Nat) (dA1 : Nat → ClassId) (H1 : Heap), (∀ k, k ≠ M.1.length → ad1 k = ad k) → mm_H D ad1 dA1 q.2 A s H1 → va_S A s.heap H1 locs → mm_L ad1 la nL ls → W p l e R s m args below meth c H1 locs (cells + (q.2.1.length - M.1.length)) (slots + (mm_S q.2.1 - mm_S M.1)) Q (F0 m (pc + mm_ln i) la (q.1.map (mm_v ad1)))) : M.1.length < 900 ∧ (∃ sh, q.2.1 = M.1 ++ [sh]) ∧ W p l e R s m args below meth c H locs cells slots Q (F0 m pc la (st.map (mm_v ad))) := by
  obtain ⟨hx, hb, hml, hown, hts, -, -, hini⟩ := F
  have hH0 := hH
  obtain ⟨hP, hD, ⟨tys, hKt, hty⟩, hR, -⟩ := hH
  unfold mm_al at h
  split at h
  · rename_i hv
    obtain ⟨hv1, hv2, hn⟩ := hv
    have hnq : ∀ (q : Nat) (k : Nat), k ≠ M.1.length → mm_ad ad M.1.length q k = ad k := fun q k hk => by unfold mm_ad; rw [if_neg hk]
    have hadn : ∀ q, mm_ad ad M.1.length q M.1.length = q := fun q => by unfold mm_ad; rw [if_pos rfl]
    refine ⟨hn, ?_⟩
    cases i
    case new idx =>
      dsimp only at h
      split at h
      · rename_i c0 hc0
        cases h
        have ck := mm_cls_ck hc0
        unfold mm_ckL at ck
        dsimp only at ck
        split at ck
        · rename_i q hq
          simp only [Bool.and_eq_true, decide_eq_true_eq] at ck
          obtain ⟨⟨⟨k1, k2⟩, k3⟩, k4⟩ := ck
          obtain ⟨C, T, N, e1, e2, e3, ⟨ty0, e4⟩, -, e6⟩ := mm_Cl_all c0 k4
          cases hq.symm.trans e1
          have hz : mm_sz (c0, 0) = N := by unfold mm_sz; rw [if_pos (show c0 < 100 by omega)]; exact e2.symm
          have q1 : (mm_nw M (c0, 0)).1.length - M.1.length = 1 := by simp [mm_nw]
          have q2 : mm_S (mm_nw M (c0, 0)).1 - mm_S M.1 = N := by
            show mm_S (M.1 ++ [(c0, 0)]) - mm_S M.1 = N
            rw [mm_S_push, hz]; omega
          dsimp only at hc hs k
          rw [q1] at hc k
          rw [q2] at hs k
          refine ⟨⟨_, rfl⟩, ?_⟩
          have hfs : ∀ j, j < N → defaultValue (ty0 j) = vp_V ((List.range (mm_fn c0)).map (fun j => if mm_ft c0 j = 2 then va_rf none else Value.int 0)) j := by
            intro j hj
            have hy := mm_ckY_all c0 k4
            unfold mm_ckY at hy
            rw [hq] at hy
            have hy2 := List.all_eq_true.mp hy j (List.mem_range.mpr hj)
            dsimp only at hy2
            rw [e4 j hj] at hy2
            have hg : vp_V ((List.range (mm_fn c0)).map (fun j => if mm_ft c0 j = 2 then va_rf none else Value.int 0)) j = if mm_ft c0 j = 2 then va_rf none else Value.int 0 := by
              unfold vp_V
              rw [← e2]
              simp [List.getD, List.getElem?_range hj]
            rw [hg]
            cases hty0 : ty0 j <;> rw [hty0] at hy2 <;> simp [mm_ckT] at hy2 <;> rw [hy2] <;> rfl
          refine va_new (C := C) (T := T) (N := N) hx hb hts e6 ty0 e4 hown (hts _ (mm_wk_in k1)) (hts _ (mm_wk_in k2)) (hts _ (mm_wk_in k3)) hKt hP hD hS hA e1 hfs hc hs hd (fun q H1 hP1 hD1 hS1 => ?_)
          have h9 := k _ _ H1 (hnq q) (hH0.push (sh := (c0, 0)) (cA := 0) hn (by rw [mm_cel_o k4]; rfl) hP1 hD1 ⟨tys, hKt, hty, fun z => absurd z (by omega)⟩) hS1 (hL.ad hn hv1)
          rw [List.map_cons, mm_st_ad hn hv2] at h9
          have hv0 : mm_v (mm_ad ad M.1.length q) (.ref M.1.length) = .ref q := by show Value.ref _ = _; rw [hadn]
          rw [hv0] at h9
          exact h9
        · cases ck
      · cases h
    case newarray t =>
      dsimp only at h
      split at h
      · rename_i n r
        split at h
        · cases h
        · rename_i hnn
          have n1 : ¬ n < 0 := fun z => hnn (Or.inl z)
          have n2 : n.toNatClampNeg ≤ 100000 := by omega
          have hv3 : r.all (mm_vo M.1.length) = true := by
            rw [List.all_cons, Bool.and_eq_true] at hv2; exact hv2.2
          cases t
          case int =>
            cases h
            have q1 : (mm_nw M (100, n.toNatClampNeg)).1.length - M.1.length = 1 := by simp [mm_nw]
            have q2 : mm_S (mm_nw M (100, n.toNatClampNeg)).1 - mm_S M.1 = n.toNatClampNeg := by
              show mm_S (M.1 ++ [(100, n.toNatClampNeg)]) - mm_S M.1 = _
              rw [mm_S_push]
              show mm_S M.1 + n.toNatClampNeg - mm_S M.1 = _
              omega
            dsimp only at hc hs k
            rw [q1] at hc k
            rw [q2] at hs k
            refine ⟨⟨_, rfl⟩, ?_⟩
            refine va_newa (atype := .int) (ty := .int) (a0 := (n.toNatClampNeg, .inl (fun _ => 0))) hx hb (hts _ mm_acI) rfl hKt hP hD hS hA (fun cA => rfl) n1 rfl (by have : componentBytes .int = 4 := rfl; rw [this]; omega) hc hs hd (fun q cA H1 hK1 hP1 hD1 hS1 => ?_)
            have h9 := k _ _ H1 (hnq q) (hH0.push (sh := (100, n.toNatClampNeg)) (cA := cA) hn rfl hP1 hD1 ⟨_, hK1, fun k t n hk ht => (by obtain ⟨t0, h0⟩ := hty k t n hk ht; exact ⟨t0, by rw [List.getElem?_append_left (List.getElem?_eq_some_iff.mp h0).1]; exact h0⟩), fun _ => ⟨tys.length, by simp [mm_ty]⟩⟩) hS1 (hL.ad hn hv1)
            rw [List.map_cons, mm_st_ad hn hv3] at h9
            have hv0 : mm_v (mm_ad ad M.1.length q) (.ref M.1.length) = .ref q := by show Value.ref _ = _; rw [hadn]
            rw [hv0] at h9
            exact h9
          case long =>
            cases h
            have q1 : (mm_nw M (101, n.toNatClampNeg)).1.length - M.1.length = 1 := by simp [mm_nw]
            have q2 : mm_S (mm_nw M (101, n.toNatClampNeg)).1 - mm_S M.1 = n.toNatClampNeg := by
              show mm_S (M.1 ++ [(101, n.toNatClampNeg)]) - mm_S M.1 = _
              rw [mm_S_push]
              show mm_S M.1 + n.toNatClampNeg - mm_S M.1 = _
              omega
            dsimp only at hc hs k
            rw [q1] at hc k
            rw [q2] at hs k
            refine ⟨⟨_, rfl⟩, ?_⟩
            refine va_newa (atype := .long) (ty := .long) (a0 := (n.toNatClampNeg, .inr (.inl (fun _ => 0)))) hx hb (hts _ mm_acL) rfl hKt hP hD hS hA (fun cA => rfl) n1 rfl (by have : componentBytes .long = 8 := rfl; rw [this]; omega) hc hs hd (fun q cA H1 hK1 hP1 hD1 hS1 => ?_)
            have h9 := k _ _ H1 (hnq q) (hH0.push (sh := (101, n.toNatClampNeg)) (cA := cA) hn rfl hP1 hD1 ⟨_, hK1, fun k t n hk ht => (by obtain ⟨t0, h0⟩ := hty k t n hk ht; exact ⟨t0, by rw [List.getElem?_append_left (List.getElem?_eq_some_iff.mp h0).1]; exact h0⟩), fun _ => ⟨tys.length, by simp [mm_ty]⟩⟩) hS1 (hL.ad hn hv1)
            rw [List.map_cons, mm_st_ad hn hv3] at h9
            have hv0 : mm_v (mm_ad ad M.1.length q) (.ref M.1.length) = .ref q := by show Value.ref _ = _; rw [hadn]
            rw [hv0] at h9
            exact h9
          all_goals cases h
      · cases h
    case anewarray idx =>
      dsimp only at h
      split at h
      · rename_i n r
        split at h
        · cases h
        · rename_i hnn
          have n1 : ¬ n < 0 := fun z => hnn (Or.inl z)
          have n2 : n.toNatClampNeg ≤ 100000 := by omega
          have hv3 : r.all (mm_vo M.1.length) = true := by
            rw [List.all_cons, Bool.and_eq_true] at hv2; exact hv2.2
          split at h
          · rename_i c0 hc0
            split at h
            · rename_i hao
              cases h
              have ck := mm_cls_ck hc0
              unfold mm_ckL at ck
              dsimp only at ck
              split at ck
              · rename_i q hq
                simp only [Bool.and_eq_true, decide_eq_true_eq] at ck
                obtain ⟨⟨⟨k1, k2⟩, k3⟩, k4⟩ := ck
                obtain ⟨C, T, N, e1, e2, e3, -, -, -⟩ := mm_Cl_all c0 k4
                cases hq.symm.trans e1
                have hz : mm_sz (102 + c0, n.toNatClampNeg) = n.toNatClampNeg := by unfold mm_sz; rw [if_neg (show ¬ 102 + c0 < 100 by omega)]
                have q1 : (mm_nw M (102 + c0, n.toNatClampNeg)).1.length - M.1.length = 1 := by simp [mm_nw]
                have q2 : mm_S (mm_nw M (102 + c0, n.toNatClampNeg)).1 - mm_S M.1 = n.toNatClampNeg := by
                  show mm_S (M.1 ++ [(102 + c0, n.toNatClampNeg)]) - mm_S M.1 = _
                  rw [mm_S_push, hz]
                  omega
                dsimp only at hc hs k
                rw [q1] at hc k
                rw [q2] at hs k
                refine ⟨⟨_, rfl⟩, ?_⟩
                have hAO := hK.2.2.2.1 c0 hao
                rw [← e3] at hAO
                refine va_newq (C := C) hx hb hown (hts _ (mm_wk_in k1)) hAO hKt hP hD hS hA n1 rfl (by omega) hc hs hd (fun q cA H1 hK1 hP1 hD1 hS1 => ?_)
                have h9 := k _ _ H1 (hnq q) (hH0.push (sh := (102 + c0, n.toNatClampNeg)) (cA := cA) hn (by rw [mm_cel_r (by omega)]; rfl) hP1 hD1 ⟨_, hK1, fun k t n hk ht => (by obtain ⟨t0, h0⟩ := hty k t n hk ht; exact ⟨t0, by rw [List.getElem?_append_left (List.getElem?_eq_some_iff.mp h0).1]; exact h0⟩), fun _ => ⟨tys.length, by rw [mm_ty_r (by show 102 ≤ 102 + c0; omega)]; simp [e3]⟩⟩) hS1 (hL.ad hn hv1)
                rw [List.map_cons, mm_st_ad hn hv3] at h9
                have hv0 : mm_v (mm_ad ad M.1.length q) (.ref M.1.length) = .ref q := by show Value.ref _ = _; rw [hadn]
                rw [hv0] at h9
                exact h9
              · cases ck
            · cases h
          · cases h
      · cases h
    all_goals cases h
  · cases h
end MMA
