/-! THE LAW: its entry -/
def lw_run (cal : mm_Ca) (d : Nat) (cs : mm_Cs) (own : Nat) (ini : Bool) (rt : Option FieldType) (b : ByteArray) : Nat → mm_Cf → Option mm_Cf
  | 0, C => some C
  | n + 1, C => match mm_step cal d cs own ini rt b C with
    | some (.inl C') => lw_run cal d cs own ini rt b n C'
    | _ => none
def lw_c1m : Option mm_Cf := lw_run (mm_exe mm_cs0 600 40) 40 mm_cs0 10 false (some .boolean) code 3 (0, [some (.ref 1004), none, none, none], [], mm_M0)
def lw_c2m : Option mm_Cf := lw_run (mm_exe mm_cs0 600 40) 40 mm_cs0 10 false (some .boolean) code 4 (7, [some (.ref 1004), none, none, none], [.ref 0], (mm_sh.take 108, mm_Rx, mm_I0, mm_L0))
set_option maxRecDepth 100000 in
theorem lw_c1_ok : (match lw_c1m with | some (7, [some (.ref 1004), none, none, none], [.ref 0], M) => mm_ag M 108 | _ => false) = true := by decide +kernel
set_option maxRecDepth 100000 in
theorem lw_c2_ok : (match lw_c2m with | some (15, [some (.ref 1004), some (.ref 0), none, none], [.ref 108], M) => mm_ag M 138 | _ => false) = true := by decide +kernel
theorem lw_c1_ex : ∃ M, lw_c1m = some (7, [some (.ref 1004), none, none, none], [.ref 0], M) ∧ mm_ag M 108 = true := by
  have h := lw_c1_ok
  split at h
  · rename_i M e; exact ⟨M, e, h⟩
  · cases h
theorem lw_c2_ex : ∃ M, lw_c2m = some (15, [some (.ref 1004), some (.ref 0), none, none], [.ref 108], M) ∧ mm_ag M 138 = true := by
  have h := lw_c2_ok
  split at h
  · rename_i M e; exact ⟨M, e, h⟩
  · cases h
theorem rl_lt {L : List (List (Option Nat))} {n : Nat} (h : L.all (fun l => l.all (fun o => match o with | some a => decide (a < n) | none => true)) = true) {k j a : Nat} (e : (L.getD k []).getD j none = some a) : a < n := by
  cases hk : L[k]? with
  | none =>
    have e1 : L.getD k [] = [] := by simp [List.getD, hk]
    rw [e1] at e
    simp [List.getD] at e
  | some l =>
    have e1 : L.getD k [] = l := by simp [List.getD, hk]
    rw [e1] at e
    cases hj : l[j]? with
    | none => simp [List.getD, hj] at e
    | some o =>
      have e2 : l.getD j none = o := by simp [List.getD, hj]
      rw [e2] at e
      subst e
      exact of_decide_eq_true (List.all_eq_true.mp (List.all_eq_true.mp h l (List.mem_of_getElem? hk)) _ (List.mem_of_getElem? hj))
theorem mm_R_138 {k j a : Nat} (h : mm_R k j = some a) : a < 138 := rl_lt (L := mm_RL) (by decide +kernel) h
theorem mm_Rx_108 {k j a : Nat} (h : mm_Rx k j = some a) : a < 108 := by
  unfold mm_Rx at h
  split at h
  · rename_i hk
    refine rl_lt (L := mm_RL.take 108) (k := k) (j := j) (by decide +kernel) ?_
    rw [← h]
    show _ = (mm_RL.getD k []).getD j none
    have : (mm_RL.take 108).getD k [] = mm_RL.getD k [] := by
      simp [List.getD, List.getElem?_take, hk]
    rw [this]
  · cases h
theorem lw_run_gr {N d : Nat} {csc cs : mm_Cs} {own : Nat} {ini : Bool} {rt : Option FieldType} {cc : ByteArray} : ∀ (n : Nat) (C C' : mm_Cf), lw_run (mm_exe csc N d) d cs own ini rt cc n C = some C' → mm_gr C.2.2.2 C'.2.2.2 := by
  intro n
  induction n with
  | zero => intro C C' h; cases h; exact mm_gr.rf
  | succ n ih =>
    intro C C' h
    unfold lw_run at h
    split at h
    · rename_i C1 h1
      exact (mm_step_gr (mm_exe_gr csc N d) h1).tr (ih _ _ h)
    · cases h
section LWR
variable {p : Program} {l : Launch} {e0 : Env} {R : Room} {s : State} {m : MethodId} {args : Array Value} {below : List Frame} {meth : Method} {c : Code} {Q : State → Prop}
variable {cc : ByteArray} {nL : Nat} {D : va_G} {A : Nat → Prop} {cs : mm_Cs} {own : Nat} {rt : Option FieldType} {ini : Bool}
set_option maxHeartbeats 2000000 in
theorem lw_run_W {N d : Nat} {csc : mm_Cs} (hok : mm_Ok l D csc N d) (hsub : ∀ k q, csc k = some q → cs k = some q) (hcs : ∀ k q, cs k = some q → 1000 ≤ k) (F : mm_Fx p s m args meth c own cc nL rt ini) (hA : ∀ q, s.heap.size ≤ q → A q) (hR : R.frames = d + 1 ∧ R.locals = 60 * (d + 1)) {pc' : Nat} {ls' : mm_Ls} {st' : List Value} {M' : mm_M} :
    ∀ (n pc : Nat) (ls : mm_Ls) (st : List Value) (M : mm_M), lw_run (mm_exe csc N d) d cs own ini rt cc n (pc, ls, st, M) = some (pc', ls', st', M') → ∀ (ad : Nat → Nat) (dA : Nat → ClassId) (H : Heap) (locs : List Loc) (la : Array Slot) (cells slots : Nat),
    mm_H D ad dA M A s H → mm_Kc cs ad A s s.heap → va_S A s.heap H locs → mm_L ad la nL ls → cells + (M'.1.length - M.1.length) ≤ R.cells → slots + (mm_S M'.1 - mm_S M.1) ≤ R.slots →
    (∀ (ad1 : Nat → Nat) (dA1 : Nat → ClassId) (H1 : Heap) (locs1 : List Loc) (la1 : Array Slot), (∀ k, k < M.1.length ∨ M'.1.length ≤ k → ad1 k = ad k) → mm_H D ad1 dA1 M' A s H1 → va_S A s.heap H1 locs1 → mm_L ad1 la1 nL ls' → W p l e0 R s m args below meth c H1 locs1 (cells + (M'.1.length - M.1.length)) (slots + (mm_S M'.1 - mm_S M.1)) Q (F0 m pc' la1 (st'.map (mm_v ad1)))) →
    W p l e0 R s m args below meth c H locs cells slots Q (F0 m pc la (st.map (mm_v ad))) := by
  intro n
  induction n with
  | zero =>
    intro pc ls st M h ad dA H locs la cells slots hH hK hS hL hcl hsl k
    cases h
    have h9 := k ad dA H locs la (fun _ _ => rfl) hH hS hL
    rw [Nat.sub_self, Nat.sub_self, Nat.add_zero, Nat.add_zero] at h9
    exact h9
  | succ n ih =>
    intro pc ls st M h ad dA H locs la cells slots hH hK hS hL hcl hsl k
    unfold lw_run at h
    split at h
    · rename_i C' h1
      have hg1 : mm_gr M C'.2.2.2 := mm_step_gr (mm_exe_gr csc N d) h1
      have hg2 : mm_gr C'.2.2.2 M' := lw_run_gr _ _ _ h
      have l1 := hg1.len
      have l2 := hg2.len
      have s1 := hg1.sum
      have s2 := hg2.sum
      obtain ⟨pc1, ls1, st1, M1⟩ := C'
      dsimp only at l1 l2 s1 s2
      refine mm_step_W hok hsub F hA hR h1 hH hK hS hL (by dsimp only; omega) (by dsimp only; omega) (fun ad1 dA1 H1 locs1 la1 hag hH1 hS1 hL1 => ?_)
      dsimp only at hag hH1 hL1 ⊢
      have h9 : M1.1.length ≤ 900 := hH1.2.2.2.2
      refine ih pc1 ls1 st1 M1 h ad1 dA1 H1 locs1 la1 _ _ hH1 (hK.ad hcs (fun k hk => hag k (Or.inr (by omega)))) hS1 hL1 (by omega) (by omega) (fun ad2 dA2 H2 locs2 la2 hag2 hH2 hS2 hL2 => ?_)
      have := k ad2 dA2 H2 locs2 la2 (fun k hk => by
        rcases hk with z | z
        · rw [hag2 k (Or.inl (by omega)), hag k (Or.inl z)]
        · rw [hag2 k (Or.inr z), hag k (Or.inr (by omega))]) hH2 hS2 hL2
      exact W.cs (by omega) (by omega) this
    · cases h
end LWR
theorem lw_room_le {s : State} {pl : Platform} {R R' : Room} (h1 : R'.frames ≤ R.frames) (h2 : R'.locals ≤ R.locals) (h3 : R'.cells ≤ R.cells) (h4 : R'.slots ≤ R.slots) (h : s.hasRoom pl R = true) : s.hasRoom pl R' = true := by
  unfold State.hasRoom at h ⊢
  simp only [Bool.and_eq_true, decide_eq_true_eq] at h ⊢
  obtain ⟨⟨⟨⟨a1, a2, a3, a4, a5, a6⟩, a7⟩, a8⟩, a9⟩ := h
  exact ⟨⟨⟨⟨by omega, by omega, by omega, by omega, by omega, a6⟩, by omega⟩, by omega⟩, a9⟩
theorem lw_W_room {p : Program} {l : Launch} {e : Env} {R R' : Room} {s : State} {m : MethodId} {args : Array Value} {below : List Frame} {meth : Method} {c : Code} {H : Heap} {locs : List Loc} {cells slots : Nat} {Q : State → Prop} {g : JFrame} (h1 : R'.frames ≤ R.frames) (h2 : R'.locals ≤ R.locals) (h3 : R'.cells ≤ R.cells) (h4 : R'.slots ≤ R.slots) (k : W p l e R' s m args below meth c H locs cells slots Q g) : W p l e R s m args below meth c H locs cells slots Q g := by
  intro T hT X
  exact k T hT ⟨X.admits, X.cas, X.clock, X.frames, lw_room_le h1 h2 h3 h4 X.room, X.hears, X.method, X.code, X.here, X.tail, X.warmed, X.limits, X.bytes, X.same⟩
