/-! THE LITTLE MACHINE IS SOUND: calls of members of the JDK -/
theorem mm_tk {st lst : List Value} {n : Nat} (h : (st.take n).reverse = lst) : st = lst.reverse ++ st.drop n := by rw [← h, List.reverse_reverse, List.take_append_drop]
theorem mm_cs_le {ad : Nat → Nat} {st : List Value} (h : mm_cw st = true) : ((st.map (mm_v ad)).map fun v => v.category).sum ≤ 8 := by
  have h1 : ((st.map (mm_v ad)).map fun v => v.category) = st.map fun v => v.category := by
    rw [List.map_map]
    exact List.map_congr_left (fun v _ => mm_v_cat ad v)
  rw [h1]
  exact of_decide_eq_true h
theorem mm_bi_900 {d : Nat} {a : List Value} {M : mm_M} : mm_bi d 900 a M = (match a with
    | [.ref _] => some (none, M)
    | _ => none) := rfl
theorem mm_bi_901 {d : Nat} {a : List Value} {M : mm_M} : mm_bi d 901 a M = (match a with
    | [.int x] => some (some (.int (if 0 ≤ x then x else 0 - x)), M)
    | _ => none) := rfl
theorem mm_bi_902 {d : Nat} {a : List Value} {M : mm_M} : mm_bi d 902 a M = (match a with
    | [.int x, .int y] => some (some (.int (if x < y then y else x)), M)
    | _ => none) := rfl
theorem mm_bi_903 {d : Nat} {a : List Value} {M : mm_M} : mm_bi d 903 a M = (match a with
    | [.int x, .int y] => some (some (.int (if y < x then y else x)), M)
    | _ => none) := rfl
theorem mm_bi_904 {d : Nat} {a : List Value} {M : mm_M} : mm_bi d 904 a M = (match a with
    | [.ref k] => if 4 ≤ d ∧ 1100 ≤ k ∧ k < 1108 then some (some (.int (Int32.ofNat (mm_sy (k - 1100)).length)), M) else none
    | _ => none) := rfl
theorem mm_bi_905 {d : Nat} {a : List Value} {M : mm_M} : mm_bi d 905 a M = (match a with
    | [.ref k, .int x] => if 4 ≤ d ∧ 1100 ≤ k ∧ k < 1108 ∧ mm_in x (mm_sy (k - 1100)).length = true then some (some (.int ((mm_sy (k - 1100)).getD x.toNatClampNeg 0)), M) else none
    | _ => none) := rfl
theorem mm_bi_906 {d : Nat} {a : List Value} {M : mm_M} : mm_bi d 906 a M = (match a with
    | [.ref p, .int sp, .ref q, .int dp, .int n] => if sp < 0 ∨ dp < 0 ∨ n < 0 then none else match M.1[p]? with
      | some (t0, n0) => match M.1[q]? with
        | some (t1, n1) => if sp.toNatClampNeg + n.toNatClampNeg ≤ n0 ∧ dp.toNatClampNeg + n.toNatClampNeg ≤ n1 ∧ t0 = t1 then (
            if t0 = 100 then some (none, M.1, M.2.1, mm_cy M.2.2.1 p q sp.toNatClampNeg dp.toNatClampNeg n.toNatClampNeg, M.2.2.2)
            else if t0 = 101 then some (none, M.1, M.2.1, M.2.2.1, mm_cy M.2.2.2 p q sp.toNatClampNeg dp.toNatClampNeg n.toNatClampNeg) else none) else none
        | none => none
      | none => none
    | _ => none) := rfl
theorem mm_1100 {a : Nat} (h1 : 1100 ≤ a) (h2 : a < 1108) : ∃ j : Nat, j < 8 ∧ a = 1100 + j ∧ (1100 + j) - 1100 = j := ⟨a - 1100, by omega, by omega, by omega⟩
section MMB
variable {p : Program} {l : Launch} {e0 : Env} {R : Room} {s : State} {m : MethodId} {args : Array Value} {below : List Frame} {meth : Method} {c : Code} {H : Heap} {locs : List Loc} {cells slots : Nat} {Q : State → Prop}
variable {cc : ByteArray} {pc : Nat} {la : Array Slot} {nL : Nat} {D : va_G} {ad : Nat → Nat} {dA : Nat → ClassId} {M : mm_M} {A : Nat → Prop} {cs : mm_Cs} {own : Nat} {rt : Option FieldType} {ini : Bool}
set_option maxHeartbeats 2000000 in
theorem mm_bi_W {d : Nat} (F : mm_Fx p s m args meth c own cc nL rt ini) (hH : mm_H D ad dA M A s H) (hK : mm_Kc cs ad A s s.heap) (hS : va_S A s.heap H locs) (hL : la.size = nL)
    {i : Instr} {idx b f : Nat} {st : List Value} {r : Option Value} {M' : mm_M} (hi : i = .invokestatic idx ∧ mm_bk b = 0 ∨ i = .invokevirtual idx ∧ mm_bk b = 1 ∨ i = .invokespecial idx ∧ mm_bk b = 2) (hd : decode cc pc = .ok (i, 3))
    (hmt : mm_mt own idx = some (b, f)) (h9 : 900 ≤ b) (hw : mm_cw (st.drop (mm_nb b)) = true) (hbi : mm_bi d b (st.take (mm_nb b)).reverse M = some (r, M')) (hR : R.frames = d + 1 ∧ R.locals = 60 * (d + 1)) (hcl : cells ≤ R.cells) (hsl : slots ≤ R.slots)
    (k : ∀ (H1 : Heap) (locs1 : List Loc), mm_H D ad dA M' A s H1 → va_S A s.heap H1 locs1 → W p l e0 R s m args below meth c H1 locs1 cells slots Q (F0 m (pc + 3) la ((r.map (mm_v ad)).toList ++ (st.drop (mm_nb b)).map (mm_v ad)))) : W p l e0 R s m args below meth c H locs cells slots Q (F0 m pc la (st.map (mm_v ad))) := by
  obtain ⟨hx, hb, hml, hown, hts, -, -, -⟩ := F
  have hmk := mm_mt_ck hmt
  unfold mm_ckM at hmk
  dsimp only at hmk
  rw [if_pos h9, Bool.and_eq_true, decide_eq_true_eq] at hmk
  obtain ⟨hlk, h907⟩ := hmk
  have hlink := hts _ (mm_wk_in hlk)
  have hcat := mm_cs_le (ad := ad) hw
  have hml2 : c.maxLocals = la.size := hml.trans hL.symm
  have hf1 : 1 ≤ R.frames := by omega
  generalize hrest : st.drop (mm_nb b) = rest at hw hcat k
  have hb7 : b = 900 ∨ b = 901 ∨ b = 902 ∨ b = 903 ∨ b = 904 ∨ b = 905 ∨ b = 906 := by omega
  rcases hb7 with rfl | rfl | rfl | rfl | rfl | rfl | rfl
  · have hi2 : i = .invokespecial idx := by
      rcases hi with h | h | h
      · exact absurd h.2 (by decide)
      · exact absurd h.2 (by decide)
      · exact h.1
    subst hi2
    rw [mm_bi_900] at hbi
    split at hbi
    · rename_i a hz
      cases hbi
      have e := mm_tk hz
      rw [hrest] at e
      have e : st = Value.ref a :: rest := e
      rw [e]
      exact W.objInit hx hb hown hlink (hts _ (mm_wk_in mm_wObj.1)) (hts _ (mm_wk_in mm_wObj.2)) rfl (by show la.size = _; rw [hml2]) rfl hd hf1 (by show 2 * 0 + ((rest.map (mm_v ad)).map fun v => v.category).sum + 12 ≤ R.locals; omega) (k H locs hH hS)
    · cases hbi
  · have hi2 : i = .invokestatic idx := by
      rcases hi with h | h | h
      · exact h.1
      · exact absurd h.2 (by decide)
      · exact absurd h.2 (by decide)
    subst hi2
    rw [mm_bi_901] at hbi
    split at hbi
    · rename_i x hz
      cases hbi
      have e := mm_tk hz
      rw [hrest] at e
      have e : st = Value.int x :: rest := e
      rw [e]
      exact va_mabs hx hb hml2 hown hlink (hts _ (mm_wk_in mm_wMath.1)) (hts _ (mm_wk_in mm_wMath.2.2.2.1)) (hts _ (mm_wk_in mm_wMath.2.2.2.2.1)) hf1 (by omega) hcl hsl hd (k H locs hH hS)
    · cases hbi
  · have hi2 : i = .invokestatic idx := by
      rcases hi with h | h | h
      · exact h.1
      · exact absurd h.2 (by decide)
      · exact absurd h.2 (by decide)
    subst hi2
    rw [mm_bi_902] at hbi
    split at hbi
    · rename_i x y hz
      cases hbi
      have e := mm_tk hz
      rw [hrest] at e
      have e : st = Value.int y :: Value.int x :: rest := e
      rw [e]
      exact va_mmax hx hb hml2 hown hlink (hts _ (mm_wk_in mm_wMath.2.1)) (hts _ (mm_wk_in mm_wMath.2.2.2.1)) (hts _ (mm_wk_in mm_wMath.2.2.2.2.2.1)) hf1 (by omega) hcl hsl hd (k H locs hH hS)
    · cases hbi
  · have hi2 : i = .invokestatic idx := by
      rcases hi with h | h | h
      · exact h.1
      · exact absurd h.2 (by decide)
      · exact absurd h.2 (by decide)
    subst hi2
    rw [mm_bi_903] at hbi
    split at hbi
    · rename_i x y hz
      cases hbi
      have e := mm_tk hz
      rw [hrest] at e
      have e : st = Value.int y :: Value.int x :: rest := e
      rw [e]
      exact va_mmin hx hb hml2 hown hlink (hts _ (mm_wk_in mm_wMath.2.2.1)) (hts _ (mm_wk_in mm_wMath.2.2.2.1)) (hts _ (mm_wk_in mm_wMath.2.2.2.2.2.2)) hf1 (by omega) hcl hsl hd (k H locs hH hS)
    · cases hbi
  · have hi2 : i = .invokevirtual idx := by
      rcases hi with h | h | h
      · exact absurd h.2 (by decide)
      · exact h.1
      · exact absurd h.2 (by decide)
    subst hi2
    rw [mm_bi_904] at hbi
    split at hbi
    · rename_i a hz
      split at hbi
      · rename_i hc
        obtain ⟨hd4, ha1, ha2⟩ := hc
        cases hbi
        have e := mm_tk hz
        rw [hrest] at e
        have e : st = Value.ref a :: rest := e
        rw [e]
        obtain ⟨j, hj, rfl, hs⟩ := mm_1100 ha1 ha2
        rw [hs] at k
        exact W.callR (W.runV (C := RJ0) (b := ad (1100 + j)) (As := []) (rest := rest.map (mm_v ad)) ⟨hx, hb, hml, hown, hts⟩ (mm_leng l ad A j hj)
          (cwV 0 hts (mm_jV (mm_wk_in mm_jc6.1) hlk mm_jc6.2.1 mm_jc6.2.2 mm_jc1.2.2.2.2.1) rfl rfl rfl (by decide +kernel) ⟨by show 1 + 1 ≤ _; omega, by show 8 + (1 + 11) + 40 ≤ _; omega⟩) ⟨mm_Pj.blind, vk_recv (i := j) (adK := fun i => ad (1100 + i)) hK.2.2.2.2.1 hj hS, fun U hU hW => ⟨rfl, by show mm_Ks ad A U U.heap; rw [hU]; exact hK.2.2.2.2.call hW hS.2.1⟩⟩ rfl rfl hL rfl (lv_room hcat) hd ⟨hcl, hsl⟩) (k H locs hH hS)
      · cases hbi
    · cases hbi
  · have hi2 : i = .invokevirtual idx := by
      rcases hi with h | h | h
      · exact absurd h.2 (by decide)
      · exact h.1
      · exact absurd h.2 (by decide)
    subst hi2
    rw [mm_bi_905] at hbi
    split at hbi
    · rename_i a x hz
      split at hbi
      · rename_i hc
        obtain ⟨hd4, ha1, ha2, hin⟩ := hc
        cases hbi
        have e := mm_tk hz
        rw [hrest] at e
        have e : st = Value.int x :: Value.ref a :: rest := e
        rw [e]
        obtain ⟨j, hj, rfl, hs⟩ := mm_1100 ha1 ha2
        rw [hs] at k hin
        have hin2 : vp_in x (mm_syl.getD j 0) := by rw [(mm_sb_ok j hj).1]; exact mm_in_of hin
        exact W.callR (W.runV (C := RJ0) (b := ad (1100 + j)) (As := [.int x]) (rest := rest.map (mm_v ad)) ⟨hx, hb, hml, hown, hts⟩ (mm_char l ad A j hj x hin2)
          (cwV 1 hts (mm_jV (mm_wk_in mm_jc7.1) hlk mm_jc7.2.1 mm_jc7.2.2 mm_jc1.2.2.2.2.1) rfl rfl rfl (by decide +kernel) ⟨by show 3 + 1 ≤ _; omega, by show 8 + (2 + 11) + 120 ≤ _; omega⟩) ⟨mm_Pj.blind, vk_recv (i := j) (adK := fun i => ad (1100 + i)) hK.2.2.2.2.1 hj hS, fun U hU hW => ⟨rfl, by show mm_Ks ad A U U.heap; rw [hU]; exact hK.2.2.2.2.call hW hS.2.1⟩⟩ rfl rfl hL rfl (lv_room hcat) hd ⟨hcl, hsl⟩) (k H locs hH hS)
      · cases hbi
    · cases hbi
  · have hi2 : i = .invokestatic idx := by
      rcases hi with h | h | h
      · exact h.1
      · exact absurd h.2 (by decide)
      · exact absurd h.2 (by decide)
    subst hi2
    have hH0 := hH
    obtain ⟨hP, hD, ⟨tys, hKt, hty⟩, hRf, -⟩ := hH
    rw [mm_bi_906] at hbi
    split at hbi
    · rename_i a sp q dp n hz
      split at hbi
      · cases hbi
      · rename_i hneg
        have n1 : ¬ sp < 0 := fun z => hneg (Or.inl z)
        have n2 : ¬ dp < 0 := fun z => hneg (Or.inr (Or.inl z))
        have n3 : ¬ n < 0 := fun z => hneg (Or.inr (Or.inr z))
        split at hbi
        · rename_i t0 n0 hk0
          split at hbi
          · rename_i t1 n1' hk1
            split at hbi
            · rename_i hc
              obtain ⟨hc1, hc2, rfl⟩ := hc
              have e := mm_tk hz
              rw [hrest] at e
              have e : st = Value.int n :: Value.int dp :: Value.ref q :: Value.int sp :: Value.ref a :: rest := e
              rw [e]
              have g0 := mm_ws_get (ad := ad) (dA := dA) hk0
              have g1 := mm_ws_get (ad := ad) (dA := dA) hk1
              split at hbi
              · rename_i ht
                subst ht
                cases hbi
                obtain ⟨u0, h0⟩ := hty a _ _ hk0 (Nat.le_refl _)
                obtain ⟨u1, h1⟩ := hty q _ _ hk1 (Nat.le_refl _)
                refine va_copyi (ty := .int) hx hb hml2 hown hlink (hts _ (mm_wk_in mm_wCopy.1)) (hts _ (mm_wk_in mm_wCopy.2.1)) (hts _ (mm_wk_in mm_wCopy.2.2.1)) hKt hP hD hS a q u0 u1 g0 g1 h0 h1 rfl n1 n2 n3 hc1 hc2 (fun _ _ => rfl) hf1 (by have := mm_wCopy.2.2.2; omega) hd (fun H1 locs1 hP1 hD1 hS1 => k H1 locs1 (hH0.put hk1 rfl (fun i hi => ⟨rfl, ?_, rfl⟩) (hRf q) ?_ hP1 hD1) hS1)
                · funext z
                  simp [mm_cy, hi]
                · rw [mm_cel_i]
                  show Sum.inl (dA q, n1', Sum.inl _) = Sum.inl (dA q, n1', Sum.inl _)
                  congr 4
                  funext z
                  simp [mm_cy]
              · rename_i ht0
                split at hbi
                · rename_i ht
                  subst ht
                  cases hbi
                  obtain ⟨u0, h0⟩ := hty a _ _ hk0 (by omega)
                  obtain ⟨u1, h1⟩ := hty q _ _ hk1 (by omega)
                  refine va_copyl (ty := .long) hx hb hml2 hown hlink (hts _ (mm_wk_in mm_wCopy.1)) (hts _ (mm_wk_in mm_wCopy.2.1)) (hts _ (mm_wk_in mm_wCopy.2.2.1)) hKt hP hD hS a q u0 u1 g0 g1 h0 h1 rfl n1 n2 n3 hc1 hc2 (fun _ _ => rfl) hf1 (by have := mm_wCopy.2.2.2; omega) hd (fun H1 locs1 hP1 hD1 hS1 => k H1 locs1 (hH0.put hk1 rfl (fun i hi => ⟨rfl, rfl, ?_⟩) (hRf q) ?_ hP1 hD1) hS1)
                  · funext z
                    simp [mm_cy, hi]
                  · rw [mm_cel_l]
                    show Sum.inl (dA q, n1', Sum.inr (Sum.inl _)) = Sum.inl (dA q, n1', Sum.inr (Sum.inl _))
                    congr 5
                    funext z
                    simp [mm_cy]
                · cases hbi
            · cases hbi
          · cases hbi
        · cases hbi
    · cases hbi
end MMB
