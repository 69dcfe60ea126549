/-! THE LITTLE MACHINE IS SOUND: calls of own methods -/
def mm_Rm (d mc ms : Nat) : Room := { frames := d, cells := mc, slots := ms, locals := 60 * d }
def mm_mw (e : mm_Me) : List Cond := .code e.1 e.2.2.1 e.2.2.2.1 e.2.2.2.2.1 :: mm_MW
def mm_Qc (D : va_G) (ad : Nat → Nat) (M M' : mm_M) (A : Nat → Prop) (r : Option Value) : Array Value → State → Outcome → State → Prop := fun _ st oc t =>
  ∃ (ad' : Nat → Nat) (dA' : Nat → ClassId), oc = .returned (r.map (mm_v ad')) ∧ (∀ k, k < M.1.length ∨ M'.1.length ≤ k → ad' k = ad k) ∧ mm_H D ad' dA' M' A t t.heap ∧ va_F A st t
def mm_Pb (D : va_G) (cs : mm_Cs) (ad : Nat → Nat) (dA : Nat → ClassId) (M : mm_M) (sz : Nat) (U : State) : Prop :=
  U.heap.size = sz ∧ mm_H D ad dA M (fun _ => True) U U.heap ∧ mm_Kc cs ad (va_A (mm_ws ad dA M) sz) U U.heap
/-- what is claimed of the calls at a depth -/
def mm_Ok (l : Launch) (D : va_G) (cs : mm_Cs) (N d : Nat) : Prop := ∀ (mi : Nat) (e : mm_Me) (args : List Value) (M : mm_M) (r : Option Value) (M' : mm_M), mm_me mi = some e → mm_exe cs N d mi args M = some (r, M') → ∀ (ad : Nat → Nat) (dA : Nat → ClassId) (sz : Nat),
  Met l e.1 (mm_mw e) (mm_Rm d (M'.1.length - M.1.length) (mm_S M'.1 - mm_S M.1)) (va_Pc (args.map (mm_v ad)) (mm_Pb D cs ad dA M sz)) (mm_Qc D ad M M' (va_A (mm_ws ad dA M) sz) r) (M'.1.length - M.1.length) (mm_S M'.1 - mm_S M.1) (va_A (mm_ws ad dA M) sz)
theorem mm_MW_good : ∀ w ∈ mm_MW, goodWord w = true := fun w hw => (List.mem_filter.mp hw).2
theorem mm_G {Ts : List Cond} {ws : List Cond} (h : ∀ w ∈ ws, w ∈ mm_MW) : GoodIn mm_MW ws := fun w hw => ⟨h w hw, good_of_word (mm_MW_good w (h w hw))⟩
theorem mm_mw_in {mi : Nat} {e : mm_Me} (h : mm_me mi = some e) : ∀ w ∈ mm_mw e, w ∈ mm_MW := by
  intro w hw
  rcases List.mem_cons.mp hw with z | z
  · rw [z]; exact mm_me_cd h
  · exact z
theorem mm_H.moved {D : va_G} {ad : Nat → Nat} {dA : Nat → ClassId} {M : mm_M} {A B : Nat → Prop} {s U : State} {H : Heap} (h : mm_H D ad dA M A s H) (hW : s.vm.Alike U.vm) (hAB : ∀ q, A q → B q) : mm_H D ad dA M B U H := by
  obtain ⟨hP, hD, ⟨tys, hK, hty⟩, hR, h9⟩ := h
  exact ⟨hP, hD.weaken (fun _ q _ z => hAB q.1 z), ⟨tys, va_K.moved hW hK, hty⟩, hR, h9⟩
theorem va_Zq_moved2 {C n d : String} {A B : Nat → Prop} {s U : State} {H H1 : Heap} (h : va_Zq C n d A s H) (hvm : s.vm.Alike U.vm) (hq : ∀ a : Nat, a < H.size → ¬ A a → H1[a]? = H[a]?) (hAB : ∀ q, B q → A q) : va_Zq C n d B U H1 := (va_Zq.narrow (va_Zq.kept (va_Zq.moved hvm h) hq) hAB)
theorem mm_nst_ok : ∀ w ∈ mm_nst, (∃ a i b n d h, w = .fieldLinkNest a i b n d h) ∨ ∃ a i x h, w = .methodLinkNest a i x h := by
  intro w hw
  unfold mm_nst at hw
  simp only [List.mem_cons, List.not_mem_nil, or_false] at hw
  rcases hw with h | h | h | h | h | h | h | h | h | h | h | h | h | h | h <;> subst h <;> first | exact Or.inl ⟨_, _, _, _, _, _, rfl⟩ | exact Or.inr ⟨_, _, _, _, rfl⟩
theorem mm_Kc.call {cs : mm_Cs} {ad : Nat → Nat} {A B : Nat → Prop} {s U : State} {H H1 : Heap} (h : mm_Kc cs ad A s H) (hW : s.WarmedH U.vm) (hq : ∀ a : Nat, a < H.size → ¬ A a → H1[a]? = H[a]?) (hAB : ∀ q, B q → A q) : mm_Kc cs ad B U H1 := by
  obtain ⟨h1, h2, h3, h4, h5, h6, h7, h8⟩ := h
  have hvm := hW.alike
  refine ⟨fun q hz => ((va_Z.moved hvm (h1 q hz)).kept hq).narrow hAB, fun k n f hz => ((va_T.moved hvm (h2 k n f hz)).kept hq).narrow hAB, fun w hw => ?_, fun c hc => va_AO.moved hvm (h4 c hc), ((vk_S.moved hvm h5).kept hq).narrow hAB, fun i q hi => vk_R.warm hW (h6 i q hi), ((va_Z.moved hvm h7).kept hq).narrow hAB, va_Zq_moved2 h8 hvm hq hAB⟩
  have := h3 w hw
  rcases mm_nst_ok w hw with ⟨a, i, b, n, d, hh, rfl⟩ | ⟨a, i, x, hh, rfl⟩
  · exact va_Nw.warmF hW this
  · exact va_Nw.warmM hW this
theorem mm_Pb.blind {D : va_G} {cs : mm_Cs} {ad : Nat → Nat} {dA : Nat → ClassId} {M : mm_M} {sz : Nat} {av : List Value} : FrameBlind (va_Pc av (mm_Pb D cs ad dA M sz)) := by
  intro a U g mk h
  obtain ⟨h0, h1, h2, h3⟩ := h
  have hal : U.vm.Alike (U.calling g mk a).vm := Vm.Alike.refl U.vm
  have hv : U.vm = (U.calling g mk a).vm := rfl
  refine ⟨h0, h1, h2.moved (U := U.calling g mk a) hal (fun _ z => z), ?_⟩
  obtain ⟨g1, g2, g3, g4, g5, g6, g7, g8⟩ := h3
  refine ⟨fun q hz => va_Z.moved (U := U.calling g mk a) hal (g1 q hz), fun k n f hz => va_T.moved (U := U.calling g mk a) hal (g2 k n f hz), fun w hw => ?_, fun c hc => va_AO.moved (U := U.calling g mk a) hal (g4 c hc), vk_S.moved (U := U.calling g mk a) hal g5, fun i q hi => vk_R.same (U := U.calling g mk a) hv.symm (g6 i q hi), va_Z.moved (U := U.calling g mk a) hal g7, va_Zq.moved (U := U.calling g mk a) hal g8⟩
  have := g3 w hw
  rcases mm_nst_ok w hw with ⟨a, i, b, n, d, hh, rfl⟩ | ⟨a, i, x, hh, rfl⟩
  · exact va_Nw.same rfl hv this
  · exact va_Nw.same rfl hv this
section MMC
variable {p : Program} {l : Launch} {e0 : Env} {R : Room} {s : State} {m : MethodId} {args : Array Value} {below : List Frame} {meth : Method} {c : Code} {H : Heap} {locs : List Loc} {cells slots : Nat} {Q : State → Prop}
variable {cc : ByteArray} {pc : Nat} {la : Array Slot} {nL : Nat} {D : va_G} {ad : Nat → Nat} {dA : Nat → ClassId} {M : mm_M} {A : Nat → Prop} {cs : mm_Cs} {own : Nat} {rt : Option FieldType} {ini : Bool}
/-- behind a call -/
theorem mm_behind {M' : mm_M} {r : Option Value} {st0 rest : List Value} {a : Array Value} {mc ms : Nat} (hrun : va_Run p l e0 R s m args below meth c H locs cells slots mc ms (F0 m pc la st0) rest (mm_Qc D ad M M' (va_A (mm_ws ad dA M) H.size) r a) (va_A (mm_ws ad dA M) H.size)) (hH : mm_H D ad dA M A s H) (hS : va_S A s.heap H locs) (hA : ∀ q, s.heap.size ≤ q → A q)
    (k : ∀ (ad1 : Nat → Nat) (dA1 : Nat → ClassId) (H1 : Heap) (locs1 : List Loc), (∀ k, k < M.1.length ∨ M'.1.length ≤ k → ad1 k = ad k) → mm_H D ad1 dA1 M' A s H1 → va_S A s.heap H1 locs1 → W p l e0 R s m args below meth c H1 locs1 (cells + mc) (slots + ms) Q (F0 m (pc + 3) la ((r.map (mm_v ad1)).toList ++ rest))) : W p l e0 R s m args below meth c H locs cells slots Q (F0 m pc la st0) := by
  have hAB : ∀ q, va_A (mm_ws ad dA M) H.size q → A q := by
    intro q hq
    rcases hq with ⟨i, e, h⟩ | h
    · exact hH.2.1.2 i (q, e) h
    · exact hA q (Nat.le_trans hS.1 h)
  intro T hT X
  obtain ⟨v, st₀, t, T', L, h0, X', hL, e1, e2, ⟨ad1, dA1, hv, hag, hH1, hz, hk⟩, st⟩ := hrun T hT X
  cases hv
  rw [h0] at hz hk
  have hvm : t.vm.Alike s.vm := by rw [← e2]; exact X'.warmed.alike.symm
  obtain ⟨t2, a1, b1⟩ := k ad1 dA1 T'.heap (locs ++ L) hag (by rw [e1]; exact hH1.moved hvm hAB)
    ⟨Nat.le_trans hS.1 (by rw [e1]; exact hz), fun q h1 h2 => by rw [e1, hk q (Nat.lt_of_lt_of_le h1 hS.1) (fun z => h2 (hAB q z))]; exact hS.2.1 q h1 h2, fun q hq => by
      rcases List.mem_append.mp hq with h | h
      · exact hS.2.2 q h
      · exact hAB _ (hL q h)⟩ T' rfl X'
  exact ⟨t2, st t2 a1, b1⟩
theorem mm_pre {av : List Value} (hH : mm_H D ad dA M A s H) (hK : mm_Kc cs ad A s s.heap) (hS : va_S A s.heap H locs) (hA : ∀ q, s.heap.size ≤ q → A q) : ∀ U : State, U.heap = H → s.WarmedH U.vm → va_Pc av (mm_Pb D cs ad dA M H.size) av.toArray U := by
  have hAB : ∀ q, va_A (mm_ws ad dA M) H.size q → A q := by
    intro q hq
    rcases hq with ⟨i, e, h⟩ | h
    · exact hH.2.1.2 i (q, e) h
    · exact hA q (Nat.le_trans hS.1 h)
  intro U hU hW
  refine ⟨rfl, by rw [hU], ?_, ?_⟩
  · rw [hU]; exact hH.moved hW.alike (fun _ _ => trivial)
  · rw [hU]; exact hK.call hW (fun a h1 h2 => hS.2.1 a h1 h2) hAB
theorem mm_room {st : List Value} (h : mm_cw st = true) : 2 * (F0 m pc la ([] : List Value)).monitorRoom + ((st.map (mm_v ad)).map fun v => v.category).sum ≤ 8 := by
  have h1 : ((st.map (mm_v ad)).map fun v => v.category) = st.map fun v => v.category := by
    rw [List.map_map]
    exact List.map_congr_left (fun v _ => mm_v_cat ad v)
  rw [h1]
  have h2 : (st.map fun v => v.category).sum ≤ 8 := of_decide_eq_true h
  exact lv_room (pc := pc) (ls := la) (rest := []) h2
set_option maxHeartbeats 1000000 in
theorem mm_ow_W {cal : mm_Ca} {N d : Nat} (hcal : cal = mm_exe cs N d) (hok : mm_Ok l D cs N d) (F : mm_Fx p s m args meth c own cc nL rt ini) (hH : mm_H D ad dA M A s H) (hK : mm_Kc cs ad A s s.heap) (hS : va_S A s.heap H locs) (hA : ∀ q, s.heap.size ≤ q → A q) (hL : la.size = nL)
    {i : Instr} {idx mi f : Nat} {e : mm_Me} {st : List Value} {r : Option Value} {M' : mm_M} (hi : i = .invokestatic idx ∧ mm_kd e = 0 ∨ i = .invokevirtual idx ∧ mm_kd e = 1 ∨ i = .invokespecial idx ∧ mm_kd e = 2) (hd : decode cc pc = .ok (i, 3))
    (hmt : mm_mt own idx = some (mi, f)) (h9 : mi < 900) (he : mm_me mi = some e) (hn : e.2.2.2.2.2.2.1 ≤ st.length) (hw : mm_cw (st.drop e.2.2.2.2.2.2.1) = true) (hrc : mm_rc e (st.take e.2.2.2.2.2.2.1).reverse M = true) (hc : cal mi (st.take e.2.2.2.2.2.2.1).reverse M = some (r, M'))
    (hR : R.frames = d + 1 ∧ R.locals = 60 * (d + 1)) (hcl : cells + (M'.1.length - M.1.length) ≤ R.cells) (hsl : slots + (mm_S M'.1 - mm_S M.1) ≤ R.slots)
    (k : ∀ (ad1 : Nat → Nat) (dA1 : Nat → ClassId) (H1 : Heap) (locs1 : List Loc), (∀ k, k < M.1.length ∨ M'.1.length ≤ k → ad1 k = ad k) → mm_H D ad1 dA1 M' A s H1 → va_S A s.heap H1 locs1 → W p l e0 R s m args below meth c H1 locs1 (cells + (M'.1.length - M.1.length)) (slots + (mm_S M'.1 - mm_S M.1)) Q (F0 m (pc + 3) la ((r.map (mm_v ad1)).toList ++ (st.drop e.2.2.2.2.2.2.1).map (mm_v ad)))) : W p l e0 R s m args below meth c H locs cells slots Q (F0 m pc la (st.map (mm_v ad))) := by
  obtain ⟨hx, hb, hml, hown, hts, -, -, -⟩ := F
  subst hcal
  have hM := hok mi e _ M r M' he hc ad dA H.size
  obtain ⟨ps, hck⟩ := mm_me_ck he
  have hcd := mm_me_cd he
  have hmk := mm_mt_ck hmt
  unfold mm_ckM at hmk
  dsimp only at hmk
  rw [if_neg (show ¬ 900 ≤ mi by omega), he] at hmk
  dsimp only at hmk
  obtain ⟨y, ow, b, mL, rt1, in1, na, sta⟩ := e
  unfold mm_ckE at hck
  dsimp only at hck hmk hn hw hrc hM hcd hi k hc
  simp only [Bool.and_eq_true, decide_eq_true_eq] at hck
  obtain ⟨⟨⟨⟨⟨⟨k1, k2⟩, k3⟩, k4⟩, k5⟩, k6⟩, k7⟩ := hck
  have hGd : GoodIn mm_MW (mm_mw (y, ow, b, mL, rt1, in1, na, sta)) := mm_G (Ts := mm_MW) (mm_mw_in he)
  have hrm : d + 1 ≤ R.frames ∧ 8 + (mL + 11) + 60 * d ≤ R.locals := ⟨by omega, by omega⟩
  have hsplit : st.map (mm_v ad) = (((st.take na).reverse.map (mm_v ad)).reverse) ++ (st.drop na).map (mm_v ad) := by
    rw [← List.map_reverse, List.reverse_reverse, ← List.map_append, List.take_append_drop]
  have hlen : ((st.take na).reverse.map (mm_v ad)).length = na := by
    rw [List.length_map, List.length_reverse, List.length_take, Nat.min_eq_left hn]
  have hroom := mm_room (m := m) (pc := pc) (la := la) (ad := ad) hw
  have S : CallFix p m c cc nL s args mm_MW (mm_RN own) := ⟨hx, hb, hml, hown, hts⟩
  unfold mm_kd at hi
  dsimp only at hi
  by_cases hsta : sta = true
  · subst hsta
    rw [if_pos rfl] at hi k7
    simp only [Bool.and_eq_true, decide_eq_true_eq] at k7
    obtain ⟨⟨j1, j2⟩, -⟩ := k7
    obtain ⟨rfl, -⟩ : i = .invokestatic idx ∧ True := by
      rcases hi with h | h | h
      · exact ⟨h.1, trivial⟩
      · exact absurd h.2 (by decide)
      · exact absurd h.2 (by decide)
    have hp : PreS s H (va_Pc ((st.take na).reverse.map (mm_v ad)) (mm_Pb D cs ad dA M H.size)) ((st.take na).reverse.map (mm_v ad)) := ⟨mm_Pb.blind, mm_pre hH hK hS hA⟩
    by_cases hf : f = 0
    · rw [if_pos hf] at hmk
      exact mm_behind (va_runS (As := (st.take na).reverse.map (mm_v ad)) (rest := (st.drop na).map (mm_v ad)) S hM
        (va_cwS na hts (mm_G (Ts := mm_MW) (fun w hw => by
          rcases List.mem_append.mp hw with z | z
          · simp only [List.mem_cons, List.not_mem_nil, or_false] at z
            rcases z with z | z | z
            · rw [z]; exact mm_wk_in hmk
            · rw [z]; exact mm_at_in j1
            · rw [z]; exact mm_at_in k1
          · exact mm_mw_in he w z)) rfl rfl rfl ⟨k3, k4, j2⟩ ⟨hrm.1, hrm.2⟩) hp rfl hlen hL (by rw [hsplit]) hroom hd ⟨hcl, hsl⟩) hH hS hA k
    · rw [if_neg hf] at hmk
      exact mm_behind (va_runSN (As := (st.take na).reverse.map (mm_v ad)) (rest := (st.drop na).map (mm_v ad)) S hM
        ⟨va_cnB na hts hGd rfl rfl rfl (hK.2.2.1 _ (of_decide_eq_true hmk)) (hts _ (mm_at_in k1)) ⟨k3, k4, j2⟩ ⟨hrm.1, hrm.2⟩, hts _ (mm_at_in j1), trivial⟩ hp rfl hlen hL (by rw [hsplit]) hroom hd ⟨hcl, hsl⟩) hH hS hA k
  · have hsta : sta = false := by simpa using hsta
    subst hsta
    rw [if_neg (by decide)] at k7 hi
    simp only [Bool.and_eq_true, decide_eq_true_eq] at k7
    obtain ⟨⟨⟨⟨j1, j2⟩, j3⟩, j4⟩, j5⟩ := k7
    obtain ⟨rc, As, hrA, hrk⟩ : ∃ (rc : Nat) (As : List Value), (st.take na).reverse = .ref rc :: As ∧ M.1[rc]? = some (ow, 0) := by
      unfold mm_rc at hrc
      dsimp only at hrc
      rw [if_neg (by decide)] at hrc
      split at hrc
      · rename_i rc As hz
        exact ⟨rc, As, hz, of_decide_eq_true hrc⟩
      · cases hrc
    rw [hrA] at hM hsplit hlen
    have hlA : (As.map (mm_v ad)).length = na - 1 := by
      rw [List.length_map] at hlen ⊢
      rw [List.length_cons] at hlen
      omega
    have hst : st.map (mm_v ad) = (As.map (mm_v ad)).reverse ++ Value.ref (ad rc) :: (st.drop na).map (mm_v ad) := by
      rw [hsplit]
      simp [mm_v]
    have hrecv : ∃ cellB : Cell, H[ad rc]? = some cellB ∧ cellB.vm.isStatics = false ∧ s.vm.findClass y.cls = some cellB.cls := by
      obtain ⟨hP, -, ⟨tys, hKt, -⟩, -, -⟩ := hH
      obtain ⟨C, T, N', e1, -, e3, -⟩ := mm_Cl_all ow j4
      have hg := mm_ws_get (ad := ad) (dA := dA) hrk
      rw [mm_cel_o j4] at hg
      have := va_recv hKt hP e1 hg
      rw [k2, ← e3]
      exact this
    have hp : ∀ U : State, U.heap = H → s.WarmedH U.vm → va_Pc ((Value.ref rc :: As).map (mm_v ad)) (mm_Pb D cs ad dA M H.size) (Value.ref (ad rc) :: As.map (mm_v ad)).toArray U := mm_pre (av := (Value.ref rc :: As).map (mm_v ad)) hH hK hS hA
    by_cases hin : in1 = true
    · subst hin
      rw [if_pos rfl] at hi j5
      simp only [Bool.and_eq_true, decide_eq_true_eq] at j5
      obtain ⟨j6, rfl⟩ := j5
      obtain ⟨rfl, -⟩ : i = .invokespecial idx ∧ True := by
        rcases hi with h | h | h
        · exact absurd h.2 (by decide)
        · exact absurd h.2 (by decide)
        · exact ⟨h.1, trivial⟩
      by_cases hf : f = 0
      · rw [if_pos hf] at hmk
        refine mm_behind (va_runI (b := ad rc) (As := As.map (mm_v ad)) (rest := (st.drop na).map (mm_v ad)) S hM
          (cwI (na - 1) hts hGd rfl rfl rfl (hts _ (mm_at_in k1)) (hts _ (mm_wk_in hmk)) (hts _ (mm_at_in j1)) j6 ⟨k3, k4, j2⟩ ⟨hrm.1, hrm.2⟩) ⟨mm_Pb.blind, hp⟩ rfl hlA hL hst hroom hd ⟨hcl, hsl⟩) hH hS hA k
      · rw [if_neg hf] at hmk
        refine mm_behind (va_runIN (b := ad rc) (As := As.map (mm_v ad)) (rest := (st.drop na).map (mm_v ad)) S hM
          ⟨va_cnB (na - 1) hts hGd rfl rfl rfl (hK.2.2.1 _ (of_decide_eq_true hmk)) (hts _ (mm_at_in k1)) ⟨k3, k4, j2⟩ ⟨hrm.1, hrm.2⟩, j6, hts _ (mm_at_in j1)⟩ ⟨mm_Pb.blind, hp⟩ rfl hlA hL hst hroom hd ⟨hcl, hsl⟩) hH hS hA k
    · have hin : in1 = false := by simpa using hin
      subst hin
      rw [if_neg (by decide)] at hi j5
      obtain ⟨rfl, -⟩ : i = .invokevirtual idx ∧ True := by
        rcases hi with h | h | h
        · exact absurd h.2 (by decide)
        · exact ⟨h.1, trivial⟩
        · exact absurd h.2 (by decide)
      by_cases hf : f = 0
      · rw [if_pos hf] at hmk
        refine mm_behind (va_runV (C := y.cls) (b := ad rc) (As := As.map (mm_v ad)) (rest := (st.drop na).map (mm_v ad)) S hM
          (cwV (na - 1) hts (mm_G (Ts := mm_MW) (fun w hw => by
            unfold wsV at hw
            rcases List.mem_append.mp hw with z | z
            · simp only [List.mem_cons, List.not_mem_nil, or_false] at z
              rcases z with z | z | z | z
              · rw [z]; exact mm_wk_in hmk
              · rw [z]; exact mm_at_in j1
              · rw [z]; exact mm_at_in j5
              · rw [z]; exact mm_at_in k1
            · exact mm_mw_in he w z)) rfl rfl rfl ⟨rfl, k3, k4, j2⟩ ⟨hrm.1, hrm.2⟩) ⟨mm_Pb.blind, hrecv, hp⟩ rfl hlA hL hst hroom hd ⟨hcl, hsl⟩) hH hS hA k
      · rw [if_neg hf] at hmk
        refine mm_behind (va_runVN (C := y.cls) (b := ad rc) (As := As.map (mm_v ad)) (rest := (st.drop na).map (mm_v ad)) S hM
          ⟨va_cnB (na - 1) hts hGd rfl rfl rfl (hK.2.2.1 _ (of_decide_eq_true hmk)) (hts _ (mm_at_in k1)) ⟨k3, k4, j2⟩ ⟨hrm.1, hrm.2⟩, hts _ (mm_at_in j1), hts _ (mm_at_in j5)⟩ ⟨mm_Pb.blind, hrecv, hp⟩ rfl hlA hL hst hroom hd ⟨hcl, hsl⟩) hH hS hA k
end MMC
