/-! THE LITTLE MACHINE IS SOUND: the locals; the cells as a world -/
def mm_lvs (ad : Nat → Nat) : Nat → mm_Ls → List (Nat × Value)
  | _, [] => []
  | i, none :: t => mm_lvs ad (i + 1) t
  | i, some v :: t => (i, mm_v ad v) :: mm_lvs ad (i + 1) t
theorem mm_lvs_in {ad : Nat → Nat} : ∀ (ls : mm_Ls) (i : Nat) (q : Nat × Value), q ∈ mm_lvs ad i ls → ∃ j v, ls[j]? = some (some v) ∧ q = (i + j, mm_v ad v)
  | [], _, _, h => by cases h
  | none :: t, i, q, h => by
    obtain ⟨j, v, h1, h2⟩ := mm_lvs_in t (i + 1) q h
    exact ⟨j + 1, v, h1, by rw [h2]; congr 1; omega⟩
  | some w :: t, i, q, h => by
    rcases List.mem_cons.mp h with h | h
    · exact ⟨0, w, rfl, h⟩
    · obtain ⟨j, v, h1, h2⟩ := mm_lvs_in t (i + 1) q h
      exact ⟨j + 1, v, h1, by rw [h2]; congr 1; omega⟩
theorem mm_lvs_of {ad : Nat → Nat} : ∀ (ls : mm_Ls) (i j : Nat) (v : Value), ls[j]? = some (some v) → (i + j, mm_v ad v) ∈ mm_lvs ad i ls
  | [], _, _, _, h => by simp at h
  | none :: t, i, j, v, h => by
    cases j with
    | zero => simp at h
    | succ j =>
      have := mm_lvs_of (ad := ad) t (i + 1) j v (by simpa using h)
      rw [show i + (j + 1) = i + 1 + j by omega]
      exact this
  | some w :: t, i, j, v, h => by
    cases j with
    | zero =>
      simp at h
      subst h
      exact List.mem_cons_self
    | succ j =>
      have := mm_lvs_of (ad := ad) t (i + 1) j v (by simpa using h)
      rw [show i + (j + 1) = i + 1 + j by omega]
      exact List.mem_cons_of_mem _ this
def mm_L (ad : Nat → Nat) (la : Array Slot) (nL : Nat) (ls : mm_Ls) : Prop := lv_has la nL (mm_lvs ad 0 ls) ∧ ls.length = nL
theorem mm_L.get {ad : Nat → Nat} {la : Array Slot} {nL k : Nat} {ls : mm_Ls} {v : Value} (h : mm_L ad la nL ls) (hk : ls[k]? = some (some v)) : la[k]? = some (.val (mm_v ad v)) := by
  have h1 := mm_lvs_of (ad := ad) ls 0 k v hk
  rw [Nat.zero_add] at h1
  exact h.1.2.2 _ h1
theorem mm_kl_some {a : Option Value} {u : Value} (h : mm_kl a = some u) : a = some u ∧ ¬ u.category = 2 := by
  cases a with
  | none => cases h
  | some v =>
    unfold mm_kl at h
    dsimp only at h
    split at h
    · cases h
    · rename_i h2
      cases h
      exact ⟨rfl, h2⟩
theorem mm_so_len : ∀ (ls : mm_Ls) (k : Nat) (v : Value), (mm_so ls k v).length = ls.length
  | [], _, _ => rfl
  | _ :: t, 0, v => rfl
  | a :: t, 1, v => by simp [mm_so, mm_so_len t 0 v]
  | a :: t, k + 2, v => by simp [mm_so, mm_so_len t (k + 1) v]
theorem mm_so2_len : ∀ (ls : mm_Ls) (k : Nat) (v : Value), (mm_so2 ls k v).length = ls.length
  | [], _, _ => rfl
  | _ :: t, 0, v => by simp [mm_so2]
  | a :: t, 1, v => by simp [mm_so2, mm_so2_len t 0 v]
  | a :: t, k + 2, v => by simp [mm_so2, mm_so2_len t (k + 1) v]
theorem mm_so_get : ∀ (ls : mm_Ls) (k : Nat) (v : Value) (j : Nat) (u : Value), (mm_so ls k v)[j]? = some (some u) → (j = k ∧ u = v) ∨ (j ≠ k ∧ ls[j]? = some (some u) ∧ ¬ (j + 1 = k ∧ u.category = 2))
  | [], k, v, j, u, h => by simp [mm_so] at h
  | a :: t, 0, v, j, u, h => by
    cases j with
    | zero => simp [mm_so] at h; exact Or.inl ⟨rfl, h.symm⟩
    | succ j => simp [mm_so] at h; exact Or.inr ⟨by omega, by simpa using h, by omega⟩
  | a :: t, 1, v, j, u, h => by
    cases j with
    | zero =>
      simp [mm_so] at h
      obtain ⟨h1, h2⟩ := mm_kl_some h
      exact Or.inr ⟨by omega, by simpa using h1, fun z => h2 z.2⟩
    | succ j =>
      simp only [mm_so, List.getElem?_cons_succ] at h
      rcases mm_so_get t 0 v j u h with ⟨h1, h2⟩ | ⟨h1, h2, h3⟩
      · exact Or.inl ⟨by omega, h2⟩
      · exact Or.inr ⟨by omega, by simpa using h2, by omega⟩
  | a :: t, k + 2, v, j, u, h => by
    cases j with
    | zero => simp [mm_so] at h; exact Or.inr ⟨by omega, by simpa using h, by omega⟩
    | succ j =>
      simp only [mm_so, List.getElem?_cons_succ] at h
      rcases mm_so_get t (k + 1) v j u h with ⟨h1, h2⟩ | ⟨h1, h2, h3⟩
      · exact Or.inl ⟨by omega, h2⟩
      · exact Or.inr ⟨by omega, by simpa using h2, fun z => h3 ⟨by omega, z.2⟩⟩
theorem mm_so2_get : ∀ (ls : mm_Ls) (k : Nat) (v : Value) (j : Nat) (u : Value), (mm_so2 ls k v)[j]? = some (some u) → (j = k ∧ u = v) ∨ (j ≠ k ∧ j ≠ k + 1 ∧ ls[j]? = some (some u) ∧ ¬ (j + 1 = k ∧ u.category = 2))
  | [], k, v, j, u, h => by simp [mm_so2] at h
  | a :: t, 0, v, j, u, h => by
    cases j with
    | zero => simp [mm_so2] at h; exact Or.inl ⟨rfl, h.symm⟩
    | succ j =>
      cases j with
      | zero => simp [mm_so2, List.getElem?_set] at h
      | succ j =>
        simp [mm_so2, List.getElem?_set] at h
        exact Or.inr ⟨by omega, by omega, by simpa using h, by omega⟩
  | a :: t, 1, v, j, u, h => by
    cases j with
    | zero =>
      simp [mm_so2] at h
      obtain ⟨h1, h2⟩ := mm_kl_some h
      exact Or.inr ⟨by omega, by omega, by simpa using h1, fun z => h2 z.2⟩
    | succ j =>
      simp only [mm_so2, List.getElem?_cons_succ] at h
      rcases mm_so2_get t 0 v j u h with ⟨h1, h2⟩ | ⟨h1, h0, h2, h3⟩
      · exact Or.inl ⟨by omega, h2⟩
      · exact Or.inr ⟨by omega, by omega, by simpa using h2, by omega⟩
  | a :: t, k + 2, v, j, u, h => by
    cases j with
    | zero => simp [mm_so2] at h; exact Or.inr ⟨by omega, by omega, by simpa using h, by omega⟩
    | succ j =>
      simp only [mm_so2, List.getElem?_cons_succ] at h
      rcases mm_so2_get t (k + 1) v j u h with ⟨h1, h2⟩ | ⟨h1, h0, h2, h3⟩
      · exact Or.inl ⟨by omega, h2⟩
      · exact Or.inr ⟨by omega, by omega, by simpa using h2, fun z => h3 ⟨by omega, z.2⟩⟩
theorem mm_L.so {ad : Nat → Nat} {la la1 : Array Slot} {nL k : Nat} {ls : mm_Ls} {v : Value} (h : mm_L ad la nL ls) (h1 : lv_has la1 nL ((k, mm_v ad v) :: (mm_lvs ad 0 ls).filter (fun q => !(q.1 == k) && !(q.1 + 1 == k && q.2.category == 2)))) : mm_L ad la1 nL (mm_so ls k v) := by
  refine ⟨⟨h1.1, h1.2.1, fun q hq => h1.2.2 q ?_⟩, by rw [mm_so_len]; exact h.2⟩
  obtain ⟨j, u, g1, g2⟩ := mm_lvs_in _ _ _ hq
  rw [Nat.zero_add] at g2
  rcases mm_so_get ls k v j u g1 with ⟨e1, e2⟩ | ⟨e1, e2, e3⟩
  · subst e1; subst e2
    rw [g2]
    exact List.mem_cons_self
  · refine List.mem_cons_of_mem _ (List.mem_filter.mpr ⟨?_, ?_⟩)
    · have := mm_lvs_of (ad := ad) ls 0 j u e2
      rw [Nat.zero_add] at this
      rw [g2]; exact this
    · rw [g2]
      simp only [mm_v_cat]
      simp [e1]
      exact Decidable.not_and_iff_or_not.mp e3
theorem mm_L.so2 {ad : Nat → Nat} {la la1 : Array Slot} {nL k : Nat} {ls : mm_Ls} {v : Value} (h : mm_L ad la nL ls) (h1 : lv_has la1 nL ((k, mm_v ad v) :: (mm_lvs ad 0 ls).filter (fun q => !(q.1 == k) && (!(q.1 == k + 1) && !(q.1 + 1 == k && q.2.category == 2))))) : mm_L ad la1 nL (mm_so2 ls k v) := by
  refine ⟨⟨h1.1, h1.2.1, fun q hq => h1.2.2 q ?_⟩, by rw [mm_so2_len]; exact h.2⟩
  obtain ⟨j, u, g1, g2⟩ := mm_lvs_in _ _ _ hq
  rw [Nat.zero_add] at g2
  rcases mm_so2_get ls k v j u g1 with ⟨e1, e2⟩ | ⟨e1, e0, e2, e3⟩
  · subst e1; subst e2
    rw [g2]
    exact List.mem_cons_self
  · refine List.mem_cons_of_mem _ (List.mem_filter.mpr ⟨?_, ?_⟩)
    · have := mm_lvs_of (ad := ad) ls 0 j u e2
      rw [Nat.zero_add] at this
      rw [g2]; exact this
    · rw [g2]
      simp only [mm_v_cat]
      simp [e1, e0]
      exact Decidable.not_and_iff_or_not.mp e3
theorem mm_is_int {v : Value} (h : mm_is 0 v = true) : ∃ x, v = .int x := by cases v <;> first | exact ⟨_, rfl⟩ | cases h
theorem mm_is_long {v : Value} (h : mm_is 1 v = true) : ∃ x, v = .long x := by cases v <;> first | exact ⟨_, rfl⟩ | cases h
theorem mm_is_ref {v : Value} (h : mm_is 2 v = true) : ∃ x, v = .ref x := by cases v <;> first | exact ⟨_, rfl⟩ | cases h
theorem mm_ld_inv {t k : Nat} {ls : mm_Ls} {st : List Value} {q : mm_Ls × List Value} (h : mm_ld t k ls st = some q) : ∃ v, ls[k]? = some (some v) ∧ mm_is t v = true ∧ q = (ls, v :: st) := by
  unfold mm_ld at h
  split at h
  · rename_i v hv
    split at h
    · rename_i ht
      exact ⟨v, hv, ht, (Option.some.inj h).symm⟩
    · cases h
  · cases h
theorem mm_st_inv {t k : Nat} {ls : mm_Ls} {st : List Value} {q : mm_Ls × List Value} (h : mm_st t k ls st = some q) : ∃ v r, st = v :: r ∧ mm_is t v = true ∧ ((t = 1 ∧ k + 1 < ls.length ∧ q = (mm_so2 ls k v, r)) ∨ (¬ t = 1 ∧ k < ls.length ∧ q = (mm_so ls k v, r))) := by
  unfold mm_st at h
  split at h
  · rename_i v r
    split at h
    · rename_i ht
      split at h
      · rename_i h1
        split at h
        · rename_i h2
          exact ⟨v, r, rfl, ht, Or.inl ⟨h1, h2, (Option.some.inj h).symm⟩⟩
        · cases h
      · rename_i h1
        split at h
        · rename_i h2
          exact ⟨v, r, rfl, ht, Or.inr ⟨h1, h2, (Option.some.inj h).symm⟩⟩
        · cases h
    · cases h
  · cases h
section MML
variable {p : Program} {l : Launch} {e : Env} {R : Room} {s : State} {m : MethodId} {args : Array Value} {below : List Frame} {meth : Method} {c : Code} {H : Heap} {locs : List Loc} {cells slots : Nat} {Q : State → Prop}
variable {cc : ByteArray} {pc : Nat} {la : Array Slot} {nL : Nat}
theorem mm_lo_W {ad : Nat → Nat} (hx : p.tables.exec = Jvm.exec) (hb : c.code = cc) {i : Instr} {ls : mm_Ls} {st : List Value} {q : mm_Ls × List Value} (h : mm_lo i ls st = some q) (hd : decode cc pc = .ok (i, mm_ln i)) (hL : mm_L ad la nL ls)
    (k : ∀ la1 : Array Slot, mm_L ad la1 nL q.1 → W p l e R s m args below meth c H locs cells slots Q (F0 m (pc + mm_ln i) la1 (q.2.map (mm_v ad)))) : W p l e R s m args below meth c H locs cells slots Q (F0 m pc la (st.map (mm_v ad))) := by
  unfold mm_lo at h
  have hlen := hL.2
  cases i
  case iload n => obtain ⟨v, h1, h2, rfl⟩ := mm_ld_inv h; obtain ⟨x, rfl⟩ := mm_is_int h2; exact lv_iload hx hb hd (hL.get h1) (k _ hL)
  case iload_n n => obtain ⟨v, h1, h2, rfl⟩ := mm_ld_inv h; obtain ⟨x, rfl⟩ := mm_is_int h2; exact lv_iload_n hx hb hd rfl (hL.get h1) (k _ hL)
  case lload n => obtain ⟨v, h1, h2, rfl⟩ := mm_ld_inv h; obtain ⟨x, rfl⟩ := mm_is_long h2; exact lv_lload hx hb hd (hL.get h1) (k _ hL)
  case lload_n n => obtain ⟨v, h1, h2, rfl⟩ := mm_ld_inv h; obtain ⟨x, rfl⟩ := mm_is_long h2; exact lv_lload_n hx hb hd rfl (hL.get h1) (k _ hL)
  case aload n => obtain ⟨v, h1, h2, rfl⟩ := mm_ld_inv h; obtain ⟨x, rfl⟩ := mm_is_ref h2; exact lv_aload hx hb hd (hL.get h1) (k _ hL)
  case aload_n n => obtain ⟨v, h1, h2, rfl⟩ := mm_ld_inv h; obtain ⟨x, rfl⟩ := mm_is_ref h2; exact lv_aload_n hx hb hd rfl (hL.get h1) (k _ hL)
  case istore n =>
    obtain ⟨v, r, rfl, h2, ⟨h3, -⟩ | ⟨-, h4, rfl⟩⟩ := mm_st_inv h
    · cases h3
    · obtain ⟨x, rfl⟩ := mm_is_int h2
      exact lv_istore hx hb hd hL.1 (hlen ▸ h4) rfl (fun la1 hl1 => k la1 (hL.so (v := .int x) hl1))
  case istore_n n =>
    obtain ⟨v, r, rfl, h2, ⟨h3, -⟩ | ⟨-, h4, rfl⟩⟩ := mm_st_inv h
    · cases h3
    · obtain ⟨x, rfl⟩ := mm_is_int h2
      exact lv_istore_n hx hb hd rfl hL.1 (hlen ▸ h4) rfl (fun la1 hl1 => k la1 (hL.so (v := .int x) hl1))
  case lstore n =>
    obtain ⟨v, r, rfl, h2, ⟨-, h4, rfl⟩ | ⟨h3, -⟩⟩ := mm_st_inv h
    · obtain ⟨x, rfl⟩ := mm_is_long h2
      exact lv_lstore hx hb hd hL.1 (hlen ▸ h4) rfl (fun la1 hl1 => k la1 (hL.so2 (v := .long x) hl1))
    · exact absurd rfl h3
  case lstore_n n =>
    obtain ⟨v, r, rfl, h2, ⟨-, h4, rfl⟩ | ⟨h3, -⟩⟩ := mm_st_inv h
    · obtain ⟨x, rfl⟩ := mm_is_long h2
      exact lv_lstore_n hx hb hd rfl hL.1 (hlen ▸ h4) rfl (fun la1 hl1 => k la1 (hL.so2 (v := .long x) hl1))
    · exact absurd rfl h3
  case astore n =>
    obtain ⟨v, r, rfl, h2, ⟨h3, -⟩ | ⟨-, h4, rfl⟩⟩ := mm_st_inv h
    · cases h3
    · obtain ⟨x, rfl⟩ := mm_is_ref h2
      exact lv_astore hx hb hd hL.1 (hlen ▸ h4) rfl (fun la1 hl1 => k la1 (hL.so (v := .ref x) hl1))
  case astore_n n =>
    obtain ⟨v, r, rfl, h2, ⟨h3, -⟩ | ⟨-, h4, rfl⟩⟩ := mm_st_inv h
    · cases h3
    · obtain ⟨x, rfl⟩ := mm_is_ref h2
      exact lv_astore_n hx hb hd rfl hL.1 (hlen ▸ h4) rfl (fun la1 hl1 => k la1 (hL.so (v := .ref x) hl1))
  case iinc n z =>
    dsimp only at h
    split at h
    · rename_i x h1
      cases h
      have h2 := mm_lvs_of (ad := ad) ls 0 n _ h1
      rw [Nat.zero_add] at h2
      obtain ⟨kk, hk⟩ := List.getElem?_of_mem h2
      exact lv_iinc hx hb hd hL.1 hk rfl (hlen ▸ (List.getElem?_eq_some_iff.mp h1).1) rfl (fun la1 hl1 => k la1 (hL.so (v := .int (x + Int32.ofInt z)) hl1))
    · cases h
  all_goals cases h
end MML
