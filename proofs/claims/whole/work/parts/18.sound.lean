/-! THE LITTLE MACHINE IS SOUND: a step, a walk, a call -/
theorem mm_pu_ns {i : Instr} {st st' : List Value} (h : mm_pu i st = some st') : mm_sw i = false := by cases i <;> first | rfl | cases h
theorem mm_lo_ns {i : Instr} {ls : mm_Ls} {st : List Value} {q : mm_Ls × List Value} (h : mm_lo i ls st = some q) : mm_sw i = false := by cases i <;> first | rfl | cases h
theorem mm_rd_ns {cs : mm_Cs} {own : Nat} {i : Instr} {st st' : List Value} {M : mm_M} (h : mm_rd cs own i st M = some st') : mm_sw i = false := by cases i <;> first | rfl | cases h
theorem mm_wr_ns {ini : Bool} {own : Nat} {i : Instr} {st : List Value} {M : mm_M} {q : List Value × mm_M} (h : mm_wr ini own i st M = some q) : mm_sw i = false := by cases i <;> first | rfl | cases h
theorem mm_al_ns {own : Nat} {i : Instr} {ls : mm_Ls} {st : List Value} {M : mm_M} {q : List Value × mm_M} (h : mm_al own i ls st M = some q) : mm_sw i = false := by
  unfold mm_al at h
  split at h
  · cases i <;> first | rfl | cases h
  · cases h
theorem mm_re_1 {rt : Option FieldType} {i : Instr} {st : List Value} {v : Option Value} (h : mm_re rt i st = some v) : mm_sw i = false ∧ mm_ln i = 1 := by cases i <;> first | exact ⟨rfl, rfl⟩ | cases h
theorem mm_ca_3 {cal : mm_Ca} {d own : Nat} {i : Instr} {st : List Value} {M : mm_M} {q : List Value × mm_M} (h : mm_ca cal d own i st M = some q) : mm_sw i = false ∧ mm_ln i = 3 := by cases i <;> first | exact ⟨rfl, rfl⟩ | cases h
theorem mm_al_push {own : Nat} {i : Instr} {ls : mm_Ls} {st : List Value} {M : mm_M} {q : List Value × mm_M} (h : mm_al own i ls st M = some q) : ∃ sh, q.2.1 = M.1 ++ [sh] := by
  unfold mm_al at h
  split at h
  · cases i
    case new idx =>
      dsimp only at h
      split at h
      · cases h; exact ⟨_, rfl⟩
      · cases h
    case newarray t =>
      dsimp only at h
      split at h
      · split at h
        · cases h
        · cases t
          case int => cases h; exact ⟨_, rfl⟩
          case long => cases h; exact ⟨_, rfl⟩
          all_goals cases h
      · cases h
    case anewarray idx =>
      dsimp only at h
      split at h
      · split at h
        · cases h
        · split at h
          · split at h
            · cases h; exact ⟨_, rfl⟩
            · cases h
          · cases h
      · cases h
    all_goals cases h
  · cases h
theorem mm_Kc.ad {cs : mm_Cs} {ad ad1 : Nat → Nat} {A : Nat → Prop} {s : State} {H : Heap} (h : mm_Kc cs ad A s H) (hcs : ∀ k q, cs k = some q → 1000 ≤ k) (hag : ∀ k, 1000 ≤ k → ad1 k = ad k) : mm_Kc cs ad1 A s H := by
  obtain ⟨h1, h2, h3, h4, h5, h6, h7, h8⟩ := h
  have e1 : (fun i => ad1 (1100 + i)) = fun i => ad (1100 + i) := funext fun i => hag _ (by omega)
  have e2 : (fun i => ad1 (1200 + i)) = fun i => ad (1200 + i) := funext fun i => hag _ (by omega)
  refine ⟨fun q hq => ?_, fun k n f hk => ?_, h3, h4, ?_, fun i q hi => ?_, h7, h8⟩
  · have := h1 q hq
    rw [hag q.2.2 ?_]
    · exact this
    · unfold mm_stt at hq
      simp only [List.mem_cons, List.not_mem_nil, or_false] at hq
      rcases hq with h | h | h | h <;> subst h <;> decide
  · rw [hag k (hcs k _ hk)]
    exact h2 k n f hk
  · rw [e1, e2]; exact h5
  · rw [hag _ (by omega)]; exact h6 i q hi
theorem mm_Kc.sub {cs csc : mm_Cs} {ad : Nat → Nat} {A : Nat → Prop} {s : State} {H : Heap} (h : mm_Kc cs ad A s H) (hsub : ∀ k q, csc k = some q → cs k = some q) : mm_Kc csc ad A s H := ⟨h.1, fun k n f hk => h.2.1 k n f (hsub k _ hk), h.2.2⟩
section MMX
variable {p : Program} {l : Launch} {e0 : Env} {R : Room} {s : State} {m : MethodId} {args : Array Value} {below : List Frame} {meth : Method} {c : Code} {Q : State → Prop}
variable {cc : ByteArray} {nL : Nat} {D : va_G} {A : Nat → Prop} {cs : mm_Cs} {own : Nat} {rt : Option FieldType} {ini : Bool}
set_option maxHeartbeats 2000000 in
theorem mm_step_W {N d : Nat} {csc : mm_Cs} (hok : mm_Ok l D csc N d) (hsub : ∀ k q, csc k = some q → cs k = some q) (F : mm_Fx p s m args meth c own cc nL rt ini) (hA : ∀ q, s.heap.size ≤ q → A q) (hR : R.frames = d + 1 ∧ R.locals = 60 * (d + 1))
    {pc : Nat} {ls : mm_Ls} {st : List Value} {M : mm_M} {C' : mm_Cf} (h : mm_step (mm_exe csc N d) d cs own ini rt cc (pc, ls, st, M) = some (.inl C')) {ad : Nat → Nat} {dA : Nat → ClassId} {H : Heap} {locs : List Loc} {la : Array Slot} {cells slots : Nat}
    (hH : mm_H D ad dA M A s H) (hK : mm_Kc cs ad A s s.heap) (hS : va_S A s.heap H locs) (hL : mm_L ad la nL ls) (hcl : cells + (C'.2.2.2.1.length - M.1.length) ≤ R.cells) (hsl : slots + (mm_S C'.2.2.2.1 - mm_S M.1) ≤ R.slots)
    (k : ∀ (ad1 : Nat → Nat) (dA1 : Nat → ClassId) (H1 : Heap) (locs1 : List Loc) (la1 : Array Slot), (∀ k, k < M.1.length ∨ C'.2.2.2.1.length ≤ k → ad1 k = ad k) → mm_H D ad1 dA1 C'.2.2.2 A s H1 → va_S A s.heap H1 locs1 → mm_L ad1 la1 nL C'.2.1 → W p l e0 R s m args below meth c H1 locs1 (cells + (C'.2.2.2.1.length - M.1.length)) (slots + (mm_S C'.2.2.2.1 - mm_S M.1)) Q (F0 m C'.1 la1 (C'.2.2.1.map (mm_v ad1)))) :
    W p l e0 R s m args below meth c H locs cells slots Q (F0 m pc la (st.map (mm_v ad))) := by
  have hx := F.1
  have hb := F.2.1
  unfold mm_step at h
  split at h
  · cases h
  · rename_i q hd
    obtain ⟨i, n⟩ := q
    dsimp only at h hd
    split at h
    · rename_i hn
      have same : ∀ (M1 : mm_M), M1.1 = M.1 → cells + (M1.1.length - M.1.length) = cells ∧ slots + (mm_S M1.1 - mm_S M.1) = slots := fun M1 h1 => by rw [h1]; omega
      split at h
      · rename_i r1 h1
        cases h
        unfold mm_st1 at h1
        dsimp only at h1
        split at h1
        · rename_i st' h2
          cases h1
          have hn2 : n = mm_ln i := hn.resolve_right (by rw [mm_pu_ns h2]; decide)
          subst hn2
          obtain ⟨g1, g2⟩ := same M rfl
          dsimp only at k
          rw [g1, g2] at k
          exact mm_pu_W ad hx hb h2 hd (k ad dA H locs la (fun _ _ => rfl) hH hS hL)
        · split at h1
          · rename_i q h2
            cases h1
            have hn2 : n = mm_ln i := hn.resolve_right (by rw [mm_lo_ns h2]; decide)
            subst hn2
            obtain ⟨g1, g2⟩ := same M rfl
            dsimp only at k
            rw [g1, g2] at k
            exact mm_lo_W hx hb h2 hd hL (fun la1 hl1 => k ad dA H locs la1 (fun _ _ => rfl) hH hS hl1)
          · split at h1
            · rename_i q h2
              cases h1
              obtain ⟨g1, g2⟩ := same M rfl
              dsimp only at k
              rw [g1, g2] at k
              exact mm_br_W ad hx hb h2 hn hd (k ad dA H locs la (fun _ _ => rfl) hH hS hL)
            · split at h1
              · rename_i st' h2
                cases h1
                have hn2 : n = mm_ln i := hn.resolve_right (by rw [mm_rd_ns h2]; decide)
                subst hn2
                obtain ⟨g1, g2⟩ := same M rfl
                dsimp only at k
                rw [g1, g2] at k
                exact mm_rd_W F hH hK hS h2 hd (k ad dA H locs la (fun _ _ => rfl) hH hS hL)
              · split at h1
                · rename_i q h2
                  cases h1
                  have hn2 : n = mm_ln i := hn.resolve_right (by rw [mm_wr_ns h2]; decide)
                  subst hn2
                  obtain ⟨g1, g2⟩ := same q.2 (mm_wr_gr h2)
                  dsimp only at k
                  rw [g1, g2] at k
                  exact (mm_wr_W F hH hS h2 hd (fun H1 locs1 hH1 hS1 => k ad dA H1 locs1 la (fun _ _ => rfl) hH1 hS1 hL)).2
                · split at h1
                  · cases h1
                  · split at h1
                    · rename_i q h2
                      cases h1
                      have hn2 : n = mm_ln i := hn.resolve_right (by rw [mm_al_ns h2]; decide)
                      subst hn2
                      obtain ⟨sh, h9⟩ := mm_al_push h2
                      refine (mm_al_W F hH hK hS hA h2 hd hL hcl hsl (fun ad1 dA1 H1 hag hH1 hS1 hL1 => k ad1 dA1 H1 locs la (fun k hk => hag k ?_) hH1 hS1 hL1)).2.2
                      dsimp only at hk
                      rw [h9, List.length_append] at hk
                      simp at hk
                      omega
                    · cases h1
      · rename_i h1
        unfold mm_st2 at h
        dsimp only at h
        split at h
        · rename_i q h2
          split at h
          · rename_i hval
            cases h
            have h3 := mm_ca_3 h2
            have hn2 : n = 3 := by
              rcases hn with z | z
              · rw [z]; exact h3.2
              · rw [h3.1] at z; cases z
            subst hn2
            have hgr := mm_ca_gr (mm_exe_gr csc N d) h2
            have hkind : ∃ idx kind, (i = .invokestatic idx ∧ kind = 0 ∨ i = .invokevirtual idx ∧ kind = 1 ∨ i = .invokespecial idx ∧ kind = 2) ∧ mm_ci (mm_exe csc N d) d own idx kind st M = some q := by
              unfold mm_ca at h2
              cases i
              case invokestatic idx => exact ⟨idx, 0, Or.inl ⟨rfl, rfl⟩, h2⟩
              case invokevirtual idx => exact ⟨idx, 1, Or.inr (Or.inl ⟨rfl, rfl⟩), h2⟩
              case invokespecial idx => exact ⟨idx, 2, Or.inr (Or.inr ⟨rfl, rfl⟩), h2⟩
              all_goals cases h2
            obtain ⟨idx, kind, hik, hci⟩ := hkind
            obtain ⟨mi, f, r, M', hmt, ⟨b1, b2, b3, b4, b5, rfl⟩ | ⟨b1, e, b2, b3, b4, b5, b6, b7, rfl⟩⟩ := mm_ci_inv hci
            · obtain ⟨g1, g2⟩ := same M' (mm_bi_gr b5)
              dsimp only at k hcl hsl
              rw [g1, g2] at k
              rw [g1] at hcl
              rw [g2] at hsl
              refine mm_bi_W F hH hK hS hL.1.1 (i := i) (by rcases hik with ⟨z1, z2⟩ | ⟨z1, z2⟩ | ⟨z1, z2⟩ <;> subst z2 <;> simp [z1, b2]) hd hmt b1 b4 b5 hR hcl hsl (fun H1 locs1 hH1 hS1 => ?_)
              have h9 := k ad dA H1 locs1 la (fun _ _ => rfl) hH1 hS1 hL
              have e1 : (r.toList ++ st.drop (mm_nb mi)).map (mm_v ad) = (r.map (mm_v ad)).toList ++ (st.drop (mm_nb mi)).map (mm_v ad) := by cases r <;> simp
              rw [e1] at h9
              exact h9
            · dsimp only at k hcl hsl hval
              refine mm_ow_W rfl hok F hH (hK.sub hsub) hS hA hL.1.1 (i := i) (by rcases hik with ⟨z1, z2⟩ | ⟨z1, z2⟩ | ⟨z1, z2⟩ <;> subst z2 <;> simp [z1, b3]) hd hmt b1 b2 b4 b5 b6 b7 hR hcl hsl (fun ad1 dA1 H1 locs1 hag hH1 hS1 => ?_)
              have hgr2 : M.1.length ≤ M'.1.length := hgr.len
              have hsame : (st.drop e.2.2.2.2.2.2.1).map (mm_v ad1) = (st.drop e.2.2.2.2.2.2.1).map (mm_v ad) ∧ mm_L ad1 la nL ls := by
                rcases hval with z | ⟨z1, z2⟩
                · have : ad1 = ad := funext fun k => hag k (by omega)
                  rw [this]
                  exact ⟨rfl, hL⟩
                · have hM9 : M'.1.length ≤ 900 := hH1.2.2.2.2
                  have hvv : ∀ v : Value, mm_vo M.1.length v = true → mm_v ad1 v = mm_v ad v := by
                    intro v hv
                    cases v with
                    | ref a =>
                      have hv2 : a < M.1.length ∨ 1000 ≤ a := of_decide_eq_true hv
                      show Value.ref _ = Value.ref _
                      congr 1
                      refine hag a ?_
                      rcases hv2 with y | y
                      · exact Or.inl y
                      · exact Or.inr (Nat.le_trans hM9 (Nat.le_trans (by decide) y))
                    | _ => rfl
                  refine ⟨List.map_congr_left (fun v hv => hvv v (List.all_eq_true.mp z2 v (List.mem_of_mem_drop hv))), ?_⟩
                  have hlv : ∀ (ls : mm_Ls) (i : Nat), mm_vl M.1.length ls = true → mm_lvs ad1 i ls = mm_lvs ad i ls := by
                    intro ls
                    induction ls with
                    | nil => intro i _; rfl
                    | cons o t ih =>
                      intro i hz
                      unfold mm_vl at hz
                      rw [List.all_cons, Bool.and_eq_true] at hz
                      cases o with
                      | none => exact ih (i + 1) hz.2
                      | some v =>
                        show (_, _) :: _ = (_, _) :: _
                        rw [hvv v hz.1, ih (i + 1) hz.2]
                  exact ⟨by rw [hlv ls 0 z1]; exact hL.1, hL.2⟩
              have h9 := k ad1 dA1 H1 locs1 la hag hH1 hS1 hsame.2
              have e1 : (r.toList ++ st.drop e.2.2.2.2.2.2.1).map (mm_v ad1) = (r.map (mm_v ad1)).toList ++ (st.drop e.2.2.2.2.2.2.1).map (mm_v ad) := by
                rw [List.map_append, hsame.1]
                cases r <;> simp
              rw [e1] at h9
              exact h9
          · cases h
        · cases h
    · cases h
theorem mm_step_end {cal : mm_Ca} {d : Nat} {pc : Nat} {ls : mm_Ls} {st : List Value} {M : mm_M} {q : Option Value × mm_M} (h : mm_step cal d cs own ini rt cc (pc, ls, st, M) = some (.inr q)) : ∃ i, decode cc pc = .ok (i, 1) ∧ mm_re rt i st = some q.1 ∧ q.2 = M := by
  unfold mm_step at h
  split at h
  · cases h
  · rename_i w hd
    obtain ⟨i, n⟩ := w
    dsimp only at h hd
    split at h
    · rename_i hn
      split at h
      · rename_i r1 h1
        cases h
        unfold mm_st1 at h1
        dsimp only at h1
        split at h1
        · cases h1
        · split at h1
          · cases h1
          · split at h1
            · cases h1
            · split at h1
              · cases h1
              · split at h1
                · cases h1
                · split at h1
                  · rename_i v h2
                    cases h1
                    have h3 := mm_re_1 h2
                    have hn2 : n = 1 := by
                      rcases hn with z | z
                      · rw [z]; exact h3.2
                      · rw [h3.1] at z; cases z
                    subst hn2
                    exact ⟨i, hd, h2, rfl⟩
                  · split at h1
                    · cases h1
                    · cases h1
      · unfold mm_st2 at h
        dsimp only at h
        split at h
        · split at h
          · cases h
          · cases h
        · cases h
    · cases h
set_option maxHeartbeats 2000000 in
theorem mm_go_W {N d : Nat} {csc : mm_Cs} (hok : mm_Ok l D csc N d) (hsub : ∀ k q, csc k = some q → cs k = some q) (hcs : ∀ k q, cs k = some q → 1000 ≤ k) (F : mm_Fx p s m args meth c own cc nL rt ini) (hA : ∀ q, s.heap.size ≤ q → A q) (hR : R.frames = d + 1 ∧ R.locals = 60 * (d + 1)) {r : Option Value} {M' : mm_M} :
    ∀ (n pc : Nat) (ls : mm_Ls) (st : List Value) (M : mm_M), mm_go (mm_exe csc N d) d cs own ini rt cc n (pc, ls, st, M) = some (r, M') → ∀ (ad : Nat → Nat) (dA : Nat → ClassId) (H : Heap) (locs : List Loc) (la : Array Slot) (cells slots : Nat),
    mm_H D ad dA M A s H → mm_Kc cs ad A s s.heap → va_S A s.heap H locs → mm_L ad la nL ls → cells + (M'.1.length - M.1.length) ≤ R.cells → slots + (mm_S M'.1 - mm_S M.1) ≤ R.slots →
    (∀ (ad1 : Nat → Nat) (dA1 : Nat → ClassId) (H1 : Heap) (locs1 : List Loc) (la1 : Array Slot) (pc1 : Nat) (st1 : List Value) (i : Instr), (∀ k, k < M.1.length ∨ M'.1.length ≤ k → ad1 k = ad k) → mm_H D ad1 dA1 M' A s H1 → va_S A s.heap H1 locs1 → decode cc pc1 = .ok (i, 1) → mm_re rt i st1 = some r → W p l e0 R s m args below meth c H1 locs1 (cells + (M'.1.length - M.1.length)) (slots + (mm_S M'.1 - mm_S M.1)) Q (F0 m pc1 la1 (st1.map (mm_v ad1)))) →
    W p l e0 R s m args below meth c H locs cells slots Q (F0 m pc la (st.map (mm_v ad))) := by
  intro n
  induction n with
  | zero => intro pc ls st M h; cases h
  | succ n ih =>
    intro pc ls st M h ad dA H locs la cells slots hH hK hS hL hcl hsl hret
    unfold mm_go at h
    cases h1 : mm_step (mm_exe csc N d) d cs own ini rt cc (pc, ls, st, M) with
    | none => rw [h1] at h; cases h
    | some q =>
      rw [h1] at h
      cases q with
      | inr q =>
        cases h
        obtain ⟨i, g1, g2, g3⟩ := mm_step_end h1
        dsimp only at g2 g3
        subst g3
        have h9 := hret ad dA H locs la pc st i (fun _ _ => rfl) hH hS g1 g2
        rw [Nat.sub_self, Nat.sub_self, Nat.add_zero, Nat.add_zero] at h9
        exact h9
      | inl C' =>
        dsimp only at h
        have hg1 : mm_gr M C'.2.2.2 := mm_step_gr (mm_exe_gr csc N d) h1
        have hg2 : mm_gr C'.2.2.2 M' := mm_go_gr (mm_exe_gr csc N d) _ _ _ h
        have l1 := hg1.len
        have l2 := hg2.len
        have s1 := hg1.sum
        have s2 := hg2.sum
        obtain ⟨pc', ls', st', M1⟩ := C'
        dsimp only at l1 l2 s1 s2
        refine mm_step_W hok hsub F hA hR h1 hH hK hS hL (by dsimp only; omega) (by dsimp only; omega) (fun ad1 dA1 H1 locs1 la1 hag hH1 hS1 hL1 => ?_)
        dsimp only at hag hH1 hL1 ⊢
        have h9 : M1.1.length ≤ 900 := hH1.2.2.2.2
        refine ih pc' ls' st' M1 h ad1 dA1 H1 locs1 la1 _ _ hH1 (hK.ad hcs (fun k hk => hag k (Or.inr (by omega)))) hS1 hL1 (by omega) (by omega) (fun ad2 dA2 H2 locs2 la2 pc2 st2 i hag2 hH2 hS2 hd2 hre2 => ?_)
        have := hret ad2 dA2 H2 locs2 la2 pc2 st2 i (fun k hk => by
          rcases hk with z | z
          · rw [hag2 k (Or.inl (by omega)), hag k (Or.inl z)]
          · rw [hag2 k (Or.inr z), hag k (Or.inr (by omega))]) hH2 hS2 hd2 hre2
        exact W.cs (by omega) (by omega) this
end MMX
