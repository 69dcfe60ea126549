/-! what the heap holds depends on the places alone that are there -/
theorem mm_arrV {cA : ClassId} {n : Nat} {f g : Nat → Value} (h : ∀ j, j < n → f j = g j) : arrV cA n f = arrV cA n g := by
  unfold arrV
  congr 1
  congr 1
  funext j
  exact h j.val j.isLt
def mm_same (M M' : mm_M) : Prop := ∀ k q, M.1[k]? = some q → (q.1 < 100 → ∀ j, j < mm_fn q.1 → (if mm_ft q.1 j = 2 then M.2.1 k j = M'.2.1 k j else M.2.2.1 k j = M'.2.2.1 k j)) ∧ (q.1 = 100 → ∀ j, j < q.2 → M.2.2.1 k j = M'.2.2.1 k j) ∧ (q.1 = 101 → ∀ j, j < q.2 → M.2.2.2 k j = M'.2.2.2 k j) ∧ (102 ≤ q.1 → ∀ j, j < q.2 → M.2.1 k j = M'.2.1 k j)
theorem mm_H.same {D : va_G} {ad : Nat → Nat} {dA : Nat → ClassId} {M M' : mm_M} {A : Nat → Prop} {s : State} {H : Heap} (h : mm_H D ad dA M A s H) (hs : M'.1 = M.1) (hR : ∀ k j a, M'.2.1 k j = some a → a < M'.1.length) (hag : mm_same M M') : mm_H D ad dA M' A s H := by
  obtain ⟨hP, hD, ⟨tys, hK, hty⟩, -, h9⟩ := h
  have back : ∀ (k : Nat) (q : Nat × va_E), (mm_ws ad dA M')[k]? = some q → ∃ t, M.1[k]? = some t ∧ q = (ad k, mm_cel ad (dA k) t (M'.2.1 k) (M'.2.2.1 k) (M'.2.2.2 k)) := by
    intro k q hq
    have hl : k < M'.1.length := by
      have := (List.getElem?_eq_some_iff.mp hq).1
      rw [mm_ws_len] at this
      exact this
    have h1 : M'.1[k]? = some M'.1[k] := List.getElem?_eq_getElem hl
    rw [mm_ws_get h1] at hq
    exact ⟨_, by rw [← hs]; exact h1, (Option.some.inj hq).symm⟩
  refine ⟨fun k q hq => ?_, ⟨fun i j p q hp hq hpq => ?_, fun k q hq => ?_⟩, ⟨tys, hK, by rw [hs]; exact hty⟩, hR, by rw [hs]; exact h9⟩
  · obtain ⟨t, ht, rfl⟩ := back k q hq
    have h0 := hP k _ (mm_ws_get (ad := ad) (dA := dA) ht)
    obtain ⟨g1, g2, g3, g4⟩ := hag k t ht
    obtain ⟨a, n⟩ := t
    dsimp only at g1 g2 g3 g4
    by_cases c1 : a < 100
    · have e : mm_cel ad (dA k) (a, n) (M'.2.1 k) (M'.2.2.1 k) (M'.2.2.2 k) = mm_cel ad (dA k) (a, n) (M.2.1 k) (M.2.2.1 k) (M.2.2.2 k) := by
        unfold mm_cel
        rw [if_pos (show (a, n).1 < 100 from c1), if_pos (show (a, n).1 < 100 from c1)]
        congr 2
        refine List.map_congr_left (fun j hj => ?_)
        have := g1 c1 j (List.mem_range.mp hj)
        dsimp only
        split
        · rename_i hf; rw [if_pos hf] at this; rw [this]
        · rename_i hf; rw [if_neg hf] at this; rw [this]
      rw [e]; exact h0
    · by_cases c2 : a = 100
      · subst c2
        have h1 : H[ad k]? = some (arrV (dA k) n (fun j => .int (M.2.2.1 k j))) := h0
        show H[ad k]? = some (arrV (dA k) n (fun j => .int (M'.2.2.1 k j)))
        rw [h1]
        congr 1
        exact mm_arrV (fun j hj => by rw [g2 rfl j hj])
      · by_cases c3 : a = 101
        · subst c3
          have h1 : H[ad k]? = some (arrV (dA k) n (fun j => .long (M.2.2.2 k j))) := h0
          show H[ad k]? = some (arrV (dA k) n (fun j => .long (M'.2.2.2 k j)))
          rw [h1]
          congr 1
          exact mm_arrV (fun j hj => by rw [g3 rfl j hj])
        · have c4 : 102 ≤ a := by omega
          rw [mm_cel_r c4] at h0
          rw [mm_cel_r c4]
          have h1 : H[ad k]? = some (arrV (dA k) n (fun j => va_rf ((M.2.1 k j).map ad))) := h0
          show H[ad k]? = some (arrV (dA k) n (fun j => va_rf ((M'.2.1 k j).map ad)))
          rw [h1]
          congr 1
          exact mm_arrV (fun j hj => by rw [g4 c4 j hj])
  · obtain ⟨t, ht, rfl⟩ := back i p hp
    obtain ⟨u, hu, rfl⟩ := back j q hq
    exact hD.1 i j _ _ (mm_ws_get (ad := ad) (dA := dA) ht) (mm_ws_get (ad := ad) (dA := dA) hu) hpq
  · obtain ⟨t, ht, rfl⟩ := back k q hq
    have := hD.2 k _ (mm_ws_get (ad := ad) (dA := dA) ht)
    exact this
/-- a checked memory is the tables' -/
theorem mm_ag_same {M : mm_M} {n : Nat} (h : mm_ag M n = true) (Rf : Nat → Nat → Option Nat) (hR : ∀ k, k < n → ∀ j, Rf k j = mm_R k j) (hn : n ≤ 138) : M.1 = mm_sh.take n ∧ mm_same M (mm_sh.take n, Rf, mm_I0, mm_L0) := by
  unfold mm_ag at h
  rw [Bool.and_eq_true] at h
  have h1 : M.1 = mm_sh.take n := of_decide_eq_true h.1
  refine ⟨h1, fun k q hk => ?_⟩
  rw [h1, List.getElem?_take] at hk
  split at hk
  · rename_i hkn
    have h2 := List.all_eq_true.mp h.2 k (List.mem_range.mpr hkn)
    rw [hk] at h2
    dsimp only at h2
    unfold mm_agk at h2
    refine ⟨fun c j hj => ?_, fun c j hj => ?_, fun c j hj => ?_, fun c j hj => ?_⟩
    · rw [if_pos c] at h2
      have h3 := List.all_eq_true.mp h2 j (List.mem_range.mpr hj)
      split
      · rename_i hf
        rw [if_pos hf] at h3
        exact (of_decide_eq_true h3).trans (hR k hkn j).symm
      · rename_i hf
        rw [if_neg hf] at h3
        exact of_decide_eq_true h3
    · rw [if_neg (by omega), if_pos c] at h2
      exact of_decide_eq_true (List.all_eq_true.mp h2 j (List.mem_range.mpr hj))
    · rw [if_neg (by omega), if_neg (by omega), if_pos c] at h2
      exact of_decide_eq_true (List.all_eq_true.mp h2 j (List.mem_range.mpr hj))
    · rw [if_neg (by omega), if_neg (by omega), if_neg (by omega)] at h2
      exact (of_decide_eq_true (List.all_eq_true.mp h2 j (List.mem_range.mpr hj))).trans (hR k hkn j).symm
  · cases hk
