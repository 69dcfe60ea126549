/-! THE LITTLE MACHINE IS SOUND: writing -/
theorem mm_set_map {n j : Nat} {f g : Nat → Value} {v : Value} (hv : g j = v) (ho : ∀ i, i ≠ j → g i = f i) : ((List.range n).map f).set j v = (List.range n).map g := by
  apply List.ext_getElem?
  intro i
  rw [List.getElem?_set, List.getElem?_map, List.getElem?_map]
  simp only [List.length_map, List.length_range]
  by_cases hi : j = i
  · subst hi
    by_cases hn : j < n
    · simp [hn, hv]
    · simp [hn]
  · rw [if_neg hi]
    by_cases hn : i < n
    · simp [List.getElem?_range hn, ho i (fun z => hi z.symm)]
    · simp [hn]
theorem mm_u_same {α : Type} {f : Nat → Nat → α} {k j : Nat} {v : α} : mm_u f k j v k = fun b => if b = j then v else f k b := by
  funext b
  simp [mm_u]
theorem mm_u_other {α : Type} {f : Nat → Nat → α} {k j i : Nat} {v : α} (h : i ≠ k) : mm_u f k j v i = f i := by
  funext b
  simp [mm_u, h]
theorem mm_H.put {D : va_G} {ad : Nat → Nat} {dA : Nat → ClassId} {M M' : mm_M} {A : Nat → Prop} {s : State} {H H1 : Heap} {k : Nat} {q : Nat × Nat} {e : va_E} (h : mm_H D ad dA M A s H) (hk : M.1[k]? = some q) (hs : M'.1 = M.1) (ho : ∀ i, i ≠ k → M'.2.1 i = M.2.1 i ∧ M'.2.2.1 i = M.2.2.1 i ∧ M'.2.2.2 i = M.2.2.2 i)
    (hR : ∀ j a, M'.2.1 k j = some a → a < M.1.length) (he : e = mm_cel ad (dA k) q (M'.2.1 k) (M'.2.2.1 k) (M'.2.2.2 k)) (hP : va_P D vwCl ((mm_ws ad dA M).set k (ad k, e)) H1) (hD : va_D A ((mm_ws ad dA M).set k (ad k, e))) : mm_H D ad dA M' A s H1 := by
  obtain ⟨-, -, ⟨tys, hKt, hty⟩, hR0, h9⟩ := h
  have hw := mm_ws_set (ad := ad) (dA := dA) hk hs ho he
  rw [hw] at hP hD
  refine ⟨hP, hD, ⟨tys, hKt, by rw [hs]; exact hty⟩, fun i j a hr => ?_, by rw [hs]; exact h9⟩
  rw [hs]
  by_cases hi : i = k
  · subst hi; exact hR j a hr
  · rw [(ho i hi).1] at hr; exact hR0 i j a hr
theorem mm_ckT_i {o : Option FieldType} (h : mm_ckT 0 o = true) : o = some .int := by
  unfold mm_ckT at h
  split at h <;> first | rfl | cases h
theorem mm_ckT_b {o : Option FieldType} (h : mm_ckT 1 o = true) : o = some .boolean := by
  unfold mm_ckT at h
  split at h <;> first | rfl | cases h
theorem mm_ckT_r {o : Option FieldType} (h : mm_ckT 2 o = true) : (∃ n, o = some (.object n)) ∨ ∃ t, o = some (.array t) := by
  unfold mm_ckT at h
  split at h <;> first | exact Or.inl ⟨_, rfl⟩ | exact Or.inr ⟨_, rfl⟩ | cases h
/-- what is written into a field: of the field's type, and how the cell looks then -/
theorem mm_pf_inv {M M' : mm_M} {k j t c : Nat} {v : Value} {ad : Nat → Nat} (ht : t = mm_ft c j) (h : mm_pf M k j t v = some M') {o : Option FieldType} (hc : mm_ckT t o = true) :
    M'.1 = M.1 ∧ (∀ i, i ≠ k → M'.2.1 i = M.2.1 i ∧ M'.2.2.1 i = M.2.2.1 i ∧ M'.2.2.2 i = M.2.2.2 i) ∧ (∃ ty, o = some ty ∧ narrow ty (mm_v ad v) = mm_v ad v ∧ fits ty (mm_v ad v) = true) ∧ ((∀ j' a, M.2.1 k j' = some a → a < M.1.length) → ∀ j' a, M'.2.1 k j' = some a → a < M.1.length) ∧
    ∀ n, ((List.range n).map (fun j => if mm_ft c j = 2 then va_rf ((M.2.1 k j).map ad) else .int (M.2.2.1 k j))).set j (mm_v ad v) = (List.range n).map (fun j => if mm_ft c j = 2 then va_rf ((M'.2.1 k j).map ad) else .int (M'.2.2.1 k j)) := by
  unfold mm_pf at h
  split at h
  · rename_i x
    split at h
    · rename_i hx
      cases h
      have ht2 : ¬ mm_ft c j = 2 := by rcases hx with h | ⟨h, -⟩ <;> omega
      refine ⟨rfl, fun i hi => ⟨rfl, mm_u_other hi, rfl⟩, ?_, fun z => z, fun n => mm_set_map ?_ (fun i hi => ?_)⟩
      · rcases hx with h0 | ⟨h0, h1⟩
        · subst h0
          exact ⟨_, mm_ckT_i hc, rfl, rfl⟩
        · subst h0
          refine ⟨_, mm_ckT_b hc, ?_, ?_⟩
          · rcases h1 with rfl | rfl <;> rfl
          · rcases h1 with rfl | rfl <;> rfl
      · rw [if_neg ht2]
        simp [mm_u_same, mm_v]
      · simp [mm_u_same, hi]
    · cases h
  · rename_i a
    split at h
    · rename_i hx
      cases h
      obtain ⟨h0, h1⟩ := hx
      have ht2 : mm_ft c j = 2 := by omega
      refine ⟨rfl, fun i hi => ⟨mm_u_other hi, rfl, rfl⟩, ?_, fun z j' a' hr => ?_, fun n => mm_set_map ?_ (fun i hi => ?_)⟩
      · subst h0
        rcases mm_ckT_r hc with ⟨n, rfl⟩ | ⟨n, rfl⟩
        · exact ⟨_, rfl, rfl, rfl⟩
        · exact ⟨_, rfl, rfl, rfl⟩
      · simp only [mm_u_same] at hr
        split at hr
        · cases hr
          exact of_decide_eq_true h1
        · exact z j' a' hr
      · rw [if_pos ht2]
        simp [mm_u_same, mm_v, va_rf]
      · simp [mm_u_same, hi]
    · cases h
  · cases h
section MMW
variable {p : Program} {l : Launch} {e : Env} {R : Room} {s : State} {m : MethodId} {args : Array Value} {below : List Frame} {meth : Method} {c : Code} {H : Heap} {locs : List Loc} {cells slots : Nat} {Q : State → Prop}
variable {cc : ByteArray} {pc : Nat} {la : Array Slot} {nL : Nat} {D : va_G} {ad : Nat → Nat} {dA : Nat → ClassId} {M : mm_M} {A : Nat → Prop} {cs : mm_Cs} {own : Nat} {rt : Option FieldType} {ini : Bool}
set_option maxHeartbeats 1000000 in
theorem mm_wr_W (F : mm_Fx p s m args meth c own cc nL rt ini) (hH : mm_H D ad dA M A s H) (hS : va_S A s.heap H locs) {i : Instr} {st : List Value} {q : List Value × mm_M} (h : mm_wr ini own i st M = some q) (hd : decode cc pc = .ok (i, mm_ln i))
    (k : ∀ (H1 : Heap) (locs1 : List Loc), mm_H D ad dA q.2 A s H1 → va_S A s.heap H1 locs1 → W p l e R s m args below meth c H1 locs1 cells slots Q (F0 m (pc + mm_ln i) la (q.1.map (mm_v ad)))) : q.2.1 = M.1 ∧ W p l e R s m args below meth c H locs cells slots Q (F0 m pc la (st.map (mm_v ad))) := by
  obtain ⟨hx, hb, hml, hown, hts, -, -, hini⟩ := F
  have hH0 := hH
  obtain ⟨hP, hD, ⟨tys, hKt, hty⟩, hR, -⟩ := hH
  unfold mm_wr at h
  cases i
  case putfield idx =>
    dsimp only at h
    split at h
    · rename_i v a r
      split at h
      · rename_i c0 j hf
        split at h
        · rename_i hk
          obtain ⟨hk, hfin⟩ := hk
          split at h
          · rename_i M' hM
            cases h
            have ck := mm_fld_ck hf
            unfold mm_ckF at ck
            dsimp only at ck
            split at ck
            · rename_i q hq
              simp only [Bool.and_eq_true, decide_eq_true_eq] at ck
              obtain ⟨⟨⟨⟨⟨k1, k2⟩, k3⟩, k4⟩, k5⟩, k6⟩ := ck
              obtain ⟨C, T, N, e1, e2, e3, ⟨ty0, e4⟩, e5, e6⟩ := mm_Cl_all c0 k2
              cases hq.symm.trans e1
              have hc := mm_ws_get (ad := ad) (dA := dA) hk
              rw [mm_cel_o k2] at hc
              have hj : j < N := k1
              obtain ⟨g1, g2, ⟨ty, g3, g4, g5⟩, g6, g7⟩ := mm_pf_inv (ad := ad) rfl hM k5
              have hl : j < ((List.range (mm_fn c0)).map (fun j => if mm_ft c0 j = 2 then va_rf ((M.2.1 a j).map ad) else Value.int (M.2.2.1 a j))).length := by
                rw [List.length_map, List.length_range, ← e2]; exact hj
              have fin : ∀ (H1 : Heap) (locs1 : List Loc), va_P D vwCl ((mm_ws ad dA M).set a (ad a, .inr (c0, ((List.range (mm_fn c0)).map (fun j => if mm_ft c0 j = 2 then va_rf ((M.2.1 a j).map ad) else Value.int (M.2.2.1 a j))).set j (mm_v ad v)))) H1 → va_D A ((mm_ws ad dA M).set a (ad a, .inr (c0, ((List.range (mm_fn c0)).map (fun j => if mm_ft c0 j = 2 then va_rf ((M.2.1 a j).map ad) else Value.int (M.2.2.1 a j))).set j (mm_v ad v)))) → va_S A s.heap H1 locs1 → W p l e R s m args below meth c H1 locs1 cells slots Q (F0 m (pc + 3) la (r.map (mm_v ad))) := by
                intro H1 locs1 hP1 hD1 hS1
                refine k H1 locs1 (hH0.put hk g1 g2 (g6 (hR a)) ?_ hP1 hD1) hS1
                rw [mm_cel_o k2, g7]
              refine ⟨g1, ?_⟩
              by_cases hf0 : mm_fi c0 j = false
              · exact va_put (ref := (T j).1) (C := C) (T := T) (N := N) hx hb hts e6 ty0 e4 e5 hown hKt hP hD hS a hc e1 j hj (hts _ (mm_wk_in k3)) (fun _ z => z) (k4.trans hf0) g3 g4 g5 hl hd fin
              · rcases hfin with z | ⟨z1, z2⟩
                · exact absurd z hf0
                · subst z2
                  exact va_putF (ref := (T j).1) (C := C) (T := T) (N := N) hx hb hts e6 ty0 e4 e5 hown hKt hP hD hS a hc e1 j hj (hts _ (mm_wk_in k3)) (fun _ z => z) (k4.trans (by simpa using hf0)) (hini z1) k6 g3 g4 g5 hl hd fin
            · cases ck
          · cases h
        · cases h
      · cases h
    · cases h
  case iastore =>
    dsimp only at h
    split at h
    · rename_i y x a r
      split at h
      · rename_i t n hk
        split at h
        · rename_i hi
          obtain ⟨rfl, hi⟩ := hi
          cases h
          obtain ⟨t0, h0⟩ := hty a _ n hk (Nat.le_refl _)
          have hc := mm_ws_get (ad := ad) (dA := dA) hk
          refine ⟨rfl, va_iast hx hb hKt hP hD hS a t0 hc h0 (mm_in_of hi) hd (fun H1 locs1 hP1 hD1 hS1 => k H1 locs1 (hH0.put hk rfl (fun i hi => ⟨rfl, mm_u_other hi, rfl⟩) (hR a) ?_ hP1 hD1) hS1)⟩
          rw [mm_cel_i]
          show Sum.inl (dA a, n, Sum.inl (upd _ _ _)) = Sum.inl (dA a, n, Sum.inl (mm_u _ _ _ _ _))
          rw [mm_u_same]
          rfl
        · cases h
      · cases h
    · cases h
  case lastore =>
    dsimp only at h
    split at h
    · rename_i y x a r
      split at h
      · rename_i t n hk
        split at h
        · rename_i hi
          obtain ⟨rfl, hi⟩ := hi
          cases h
          obtain ⟨t0, h0⟩ := hty a _ n hk (by omega)
          have hc := mm_ws_get (ad := ad) (dA := dA) hk
          refine ⟨rfl, va_last hx hb hKt hP hD hS a t0 hc h0 (mm_in_of hi) hd (fun H1 locs1 hP1 hD1 hS1 => k H1 locs1 (hH0.put hk rfl (fun i hi => ⟨rfl, rfl, mm_u_other hi⟩) (hR a) ?_ hP1 hD1) hS1)⟩
          rw [mm_cel_l]
          show Sum.inl (dA a, n, Sum.inr (Sum.inl (vp_updL _ _ _))) = Sum.inl (dA a, n, Sum.inr (Sum.inl (mm_u _ _ _ _ _)))
          rw [mm_u_same]
          rfl
        · cases h
      · cases h
    · cases h
  case aastore =>
    dsimp only at h
    split at h
    · rename_i y x a r
      split at h
      · rename_i t n hk
        split at h
        · rename_i c1 n1 hk1
          split at h
          · rename_i hi
            obtain ⟨rfl, h10, hi⟩ := hi
            cases h
            obtain ⟨t0, h0⟩ := hty a _ n hk (by omega)
            have hc := mm_ws_get (ad := ad) (dA := dA) hk
            have hc1 := mm_ws_get (ad := ad) (dA := dA) hk1
            rw [mm_cel_r (by omega)] at hc
            rw [mm_cel_o h10] at hc1
            rw [mm_ty_r (by omega), Nat.add_sub_cancel_left] at h0
            obtain ⟨C, T, N, e1, e2, e3, -, -, -⟩ := mm_Cl_all c1 h10
            rw [← e3] at h0
            refine ⟨rfl, va_astq (r := (C, T, N)) hx hb hKt hP hD hS a t0 y c1 hc h0 hc1 e1 (mm_in_of hi) hd (fun H1 locs1 hP1 hD1 hS1 => k H1 locs1 (hH0.put hk rfl (fun i hi => ⟨mm_u_other hi, rfl, rfl⟩) (fun j' a' hr => ?_) ?_ hP1 hD1) hS1)⟩
            · simp only [mm_u_same] at hr
              split at hr
              · cases hr
                exact (List.getElem?_eq_some_iff.mp hk1).1
              · exact hR a j' a' hr
            · rw [mm_cel_r (by omega)]
              congr 2
              congr 1
              congr 1
              congr 1
              congr 1
              congr 1
              funext b
              simp only [mm_u_same, va_up]
              split <;> rfl
          · cases h
        · cases h
      · cases h
    · cases h
  all_goals cases h
end MMW
