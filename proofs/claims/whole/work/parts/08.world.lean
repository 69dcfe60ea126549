/-! THE LITTLE MACHINE IS SOUND: the cells as a world of the kit -/
def mm_cel (ad : Nat → Nat) (cA : ClassId) (q : Nat × Nat) (Rr : Nat → Option Nat) (Ir : Nat → Int32) (Lr : Nat → Int64) : va_E :=
  if q.1 < 100 then .inr (q.1, (List.range (mm_fn q.1)).map (fun j => if mm_ft q.1 j = 2 then va_rf ((Rr j).map ad) else .int (Ir j)))
  else .inl (cA, q.2, if q.1 = 100 then .inl Ir else if q.1 = 101 then .inr (.inl Lr) else .inr (.inr (.inr (.inr (fun j => (Rr j).map ad)))))
def mm_ws (ad : Nat → Nat) (dA : Nat → ClassId) (M : mm_M) : va_W := (List.range M.1.length).map (fun k => (ad k, mm_cel ad (dA k) (M.1.getD k (0, 0)) (M.2.1 k) (M.2.2.1 k) (M.2.2.2 k)))
theorem mm_ws_len (ad : Nat → Nat) (dA : Nat → ClassId) (M : mm_M) : (mm_ws ad dA M).length = M.1.length := by simp [mm_ws]
theorem mm_getD {l : List (Nat × Nat)} {k : Nat} {q : Nat × Nat} (h : l[k]? = some q) : l.getD k (0, 0) = q := by simp [h]
theorem mm_ws_get {ad : Nat → Nat} {dA : Nat → ClassId} {M : mm_M} {k : Nat} {q : Nat × Nat} (h : M.1[k]? = some q) : (mm_ws ad dA M)[k]? = some (ad k, mm_cel ad (dA k) q (M.2.1 k) (M.2.2.1 k) (M.2.2.2 k)) := by
  have hk := (List.getElem?_eq_some_iff.mp h).1
  simp only [mm_ws, List.getElem?_map, List.getElem?_range hk, Option.map_some]
  rw [mm_getD h]
theorem mm_ws_none {ad : Nat → Nat} {dA : Nat → ClassId} {M : mm_M} {k : Nat} (h : M.1.length ≤ k) : (mm_ws ad dA M)[k]? = none := List.getElem?_eq_none (by rw [mm_ws_len]; exact h)
theorem mm_ws_set {ad : Nat → Nat} {dA : Nat → ClassId} {M M' : mm_M} {k : Nat} {q : Nat × Nat} (h : M.1[k]? = some q) (hs : M'.1 = M.1) (ho : ∀ i, i ≠ k → M'.2.1 i = M.2.1 i ∧ M'.2.2.1 i = M.2.2.1 i ∧ M'.2.2.2 i = M.2.2.2 i) {e : va_E} (he : e = mm_cel ad (dA k) q (M'.2.1 k) (M'.2.2.1 k) (M'.2.2.2 k)) :
    (mm_ws ad dA M).set k (ad k, e) = mm_ws ad dA M' := by
  have hk := (List.getElem?_eq_some_iff.mp h).1
  subst he
  apply List.ext_getElem?
  intro i
  rw [List.getElem?_set, mm_ws_len]
  by_cases hi : k = i
  · subst hi
    rw [if_pos rfl, if_pos hk, mm_ws_get (M := M') (by rw [hs]; exact h)]
  · rw [if_neg hi]
    by_cases hl : i < M.1.length
    · have h1 : M.1[i]? = some M.1[i] := List.getElem?_eq_getElem hl
      have h2 : M'.1[i]? = some M.1[i] := by rw [hs]; exact h1
      obtain ⟨a, b, d⟩ := ho i (fun z => hi z.symm)
      rw [mm_ws_get h1, mm_ws_get h2, a, b, d]
    · rw [mm_ws_none (by omega), mm_ws_none (by rw [hs]; omega)]
def mm_ad (ad : Nat → Nat) (n q : Nat) : Nat → Nat := fun k => if k = n then q else ad k
theorem mm_map_ad {ad : Nat → Nat} {n q : Nat} {o : Option Nat} (h : ∀ a, o = some a → a < n) : o.map (mm_ad ad n q) = o.map ad := by
  cases o with
  | none => rfl
  | some a =>
    have := h a rfl
    simp only [Option.map_some, mm_ad]
    rw [if_neg (by omega)]
theorem mm_cel_ad {ad : Nat → Nat} {n q : Nat} {cA : ClassId} {s : Nat × Nat} {Rr : Nat → Option Nat} {Ir : Nat → Int32} {Lr : Nat → Int64} (h : ∀ j a, Rr j = some a → a < n) : mm_cel (mm_ad ad n q) cA s Rr Ir Lr = mm_cel ad cA s Rr Ir Lr := by
  have h1 : (fun j => (Rr j).map (mm_ad ad n q)) = fun j => (Rr j).map ad := funext fun j => mm_map_ad (h j)
  have h2 : ∀ j, (Rr j).map (mm_ad ad n q) = (Rr j).map ad := fun j => mm_map_ad (h j)
  unfold mm_cel
  simp only [h2]
theorem mm_ws_push {ad : Nat → Nat} {dA : Nat → ClassId} {M : mm_M} {q : Nat} {cA : ClassId} {s : Nat × Nat} {e : va_E} (hR : ∀ k j a, M.2.1 k j = some a → a < M.1.length) (he : e = mm_cel (mm_ad ad M.1.length q) cA s (fun _ => none) (fun _ => 0) (fun _ => 0)) :
    mm_ws ad dA M ++ [(q, e)] = mm_ws (mm_ad ad M.1.length q) (mm_ad dA M.1.length cA) (mm_nw M s) := by
  apply List.ext_getElem?
  intro i
  have hl : (mm_nw M s).1.length = M.1.length + 1 := by simp [mm_nw]
  by_cases h1 : i < M.1.length
  · rw [List.getElem?_append_left (by rw [mm_ws_len]; exact h1)]
    have g1 : M.1[i]? = some M.1[i] := List.getElem?_eq_getElem h1
    have g2 : (mm_nw M s).1[i]? = some M.1[i] := by
      show (M.1 ++ [s])[i]? = _
      rw [List.getElem?_append_left h1]
      exact g1
    rw [mm_ws_get g1, mm_ws_get g2]
    have hn : i ≠ M.1.length := by omega
    have e1 : (mm_nw M s).2.1 i = M.2.1 i := by funext b; simp [mm_nw, mm_z, hn]
    have e2 : (mm_nw M s).2.2.1 i = M.2.2.1 i := by funext b; simp [mm_nw, mm_z, hn]
    have e3 : (mm_nw M s).2.2.2 i = M.2.2.2 i := by funext b; simp [mm_nw, mm_z, hn]
    rw [e1, e2, e3, mm_cel_ad (fun j a h => hR i j a h)]
    simp [mm_ad, hn]
  · by_cases h2 : i = M.1.length
    · subst h2
      rw [List.getElem?_append_right (by rw [mm_ws_len]; exact Nat.le_refl _), mm_ws_len, Nat.sub_self]
      have g2 : (mm_nw M s).1[M.1.length]? = some s := by
        show (M.1 ++ [s])[M.1.length]? = _
        simp
      rw [mm_ws_get g2]
      have e1 : (mm_nw M s).2.1 M.1.length = fun _ => none := by funext b; simp [mm_nw, mm_z]
      have e2 : (mm_nw M s).2.2.1 M.1.length = fun _ => 0 := by funext b; simp [mm_nw, mm_z]
      have e3 : (mm_nw M s).2.2.2 M.1.length = fun _ => 0 := by funext b; simp [mm_nw, mm_z]
      rw [e1, e2, e3, he]
      simp [mm_ad]
    · rw [List.getElem?_eq_none (by simp [mm_ws_len]; omega), mm_ws_none (by omega)]
/-- the field types of the arrays, by their tags -/
def mm_RN (own : Nat) : String := ([RX0, RX1, RX2, RX3, RX4, RX5, RX6, RX7, RX8, RX9, RL, RJ7] : List String).getD own ""
def mm_ty (t : Nat) : FieldType := if t = 100 then .int else if t = 101 then .long else .object (mm_RN (t - 102))
/-- the heap holds the cells -/
def mm_H (D : va_G) (ad : Nat → Nat) (dA : Nat → ClassId) (M : mm_M) (A : Nat → Prop) (s : State) (H : Heap) : Prop :=
  va_P D vwCl (mm_ws ad dA M) H ∧ va_D A (mm_ws ad dA M) ∧ (∃ tys, va_K D vwCl tys s ∧ ∀ k t n, M.1[k]? = some (t, n) → 100 ≤ t → ∃ t0 : Nat, tys[t0]? = some (dA k, mm_ty t)) ∧ (∀ k j a, M.2.1 k j = some a → a < M.1.length) ∧ M.1.length ≤ 900
