/-! THE CLAIM OUT OF ONE WALK OF THE LAW'S BODY. Your part is whole_start (and what it stands on); all else here is the same for every law, but numbers. -/
def R_law : String := "InASackToTheRopeLaw"
def lw_P (b : Addr) (xs : List Int32) (args : Array Value) (s : State) : Prop := args = #[.ref b] ∧ s.IntsAt b xs ∧ xs.length ≤ 3072 ∧ (Jvm.Cond.and given_1 narrow_1).before args s = true
def lw_Q (_ : Array Value) (s : State) (o : Outcome) (t : State) : Prop := o = .returned (some (.int 1)) ∧ Framed s o t [] 600000 7302250
def lw_Z (below : List Frame) (a : Array Value) (s : State) : State → Prop := fun t => ∃ o, t.status = .running ∧ Ended t below o ∧ lw_Q a s o t
/-- the law's own end, with 1 on the stack, nothing written that was there before, its room as the claim has it -/
theorem lw_ret {R : Room} {p : Program} {l : Launch} {e : Env} {s : State} {m : MethodId} {below : List Frame} {meth : Method} {c : Code} {b : Nat} (hx : p.tables.exec = Jvm.exec) (hb : c.code = code) (hr : meth.sig.returnType = ret) (hlocks : meth.locks = false) {pc : Nat} {H : Heap} {ls : Array Slot} (hdg : decode code pc = .ok (.ireturn, 1)) : W p l e R s m #[Value.ref b] below meth c H [] 600000 7302250 (lw_Z below #[Value.ref b] s) (F0 m pc ls [.int 1]) := by
  intro T hT X
  obtain ⟨fs, hret, hrun, hended, hW, hframe⟩ := X.leave (v := some (.int 1)) (hlocks := hlocks) (fun h => by rw [hr] at h; cases h)
  have hmeth' : T.vm.method? m = some meth := X.method'
  refine ⟨T.setFrames fs, ?_, .returned (some (.int 1)), hrun, hended, rfl, ⟨_, rfl⟩, hW, hframe⟩
  jvm_step X.here [X.here.top, hx, hb, hdg, hmeth', hr, ret, narrow_b1]
  (try refine ⟨rfl, ?_⟩); (try refine ⟨rfl, ?_⟩)
  first | (intro acts; rw [hret _ acts rfl rfl rfl]) | rw [hret _ _ rfl rfl rfl]
  exact Steps.refl _
/-- what holds at the law's entry: the machine, the code, the tables' words (any of lw_tbl by 'hts w (by decide +kernel)'), the script of L ints xs at the cell b, what the Statement gives of the start (any of its parts by flat_of_before) -/
def lw_At (p : Program) (s : State) (m : MethodId) (meth : Method) (c : Code) (b L : Nat) (xs : Nat → Int32) : Prop :=
  p.tables.exec = Jvm.exec ∧ c.code = code ∧ meth.sig.returnType = ret ∧ c.maxLocals = 4 ∧ s.vm.findClass R_law = some m.cls ∧ (∀ w ∈ lw_tbl, w.before #[Value.ref b] s = true) ∧ va_X b L xs s s.heap ∧ b < s.heap.size ∧ meth.locks = false ∧ (Jvm.Cond.and given_1 narrow_1).before #[Value.ref b] s = true
-- ===== YOUR PART BEGINS =====
theorem lw_cs0_ge : ∀ k q, mm_cs0 k = some q → 1000 ≤ k := by
  intro k q h
  unfold mm_cs0 at h
  split at h <;> first | omega | cases h
theorem lw_cs_ge (L : Nat) (xs : Nat → Int32) : ∀ k q, lw_cs L xs k = some q → 1000 ≤ k := by
  intro k q h
  unfold lw_cs at h
  split at h
  · omega
  · exact lw_cs0_ge k q h
theorem lw_cs_sub (L : Nat) (xs : Nat → Int32) : ∀ k q, mm_cs0 k = some q → lw_cs L xs k = some q := by
  intro k q h
  unfold lw_cs
  split
  · rename_i h4
    subst h4
    cases h
  · exact h
theorem lw_body {L : Nat} (hL : L ≤ 3072) (xs : Nat → Int32) : gP (lw_cs L xs) 40 10 false (some .boolean) code 15 [some (.ref 1004), some (.ref 0), none, none] [.ref 108] (mm_sh, mm_R, mm_I0, mm_L0) (fun r M => r = some (.int 1) ∧ M.1 = mm_sh) := by
  refine gp_astore_n (ls' := [some (.ref 1004), some (.ref 0), some (.ref 108), none]) dL_15 rfl (by decide) ?_
  refine gp_pu (st' := .int (0) :: _) dL_16 rfl ?_
  refine gp_istore_n (ls' := [some (.ref 1004), some (.ref 0), some (.ref 108), some (.int 0)]) dL_17 rfl (by decide) ?_
  have h := lw_loop hL xs (L + 6) 0 mm_I0 mm_L0 (by omega) (by omega) rr_start
  rw [show nI 0 = (0 : Int32) from rfl] at h
  exact h
/-- YOUR PART: from the entry, for every script of at most 3072 ints, the law comes to its end with true ('hflags': the launch's flags, for a law that throws: no stack traces) -/
theorem whole_start {p : Program} {e : Env} {s : State} {m : MethodId} {below : List Frame} {meth : Method} {c : Code} (l : Launch) (hflags : l.flags = flags0) {b L : Nat} {xs : Nat → Int32} (hL : L ≤ 3072) (C0 : lw_At p s m meth c b L xs) : W p l e room_1 s m #[Value.ref b] below meth c s.heap [] 0 0 (lw_Z below #[Value.ref b] s) (entryFrame m ([Value.ref b] : List Value).toArray 4) := by
  obtain ⟨hx, hb, hr, hml, hown, hts, hX, hbs, hlocks, hgv⟩ := C0
  have htsM : ∀ w ∈ mm_MW, w.before #[Value.ref b] s = true := fun w hw => hts w (List.mem_filter.mp hw).1
  have hs := flat_of_before _ hgv
  obtain ⟨D, hK0⟩ := lw_D htsM
  obtain ⟨ad, had, hKc⟩ := lw_Kc hs hts hX hbs
  have F : mm_Fx p s m #[Value.ref b] meth c 10 code 4 (some .boolean) false := ⟨hx, hb, hml, hown, htsM, hlocks, hr, fun z => by cases z⟩
  have hcs0 := lw_cs0_ge
  have hcsL := lw_cs_ge L xs
  have hsub := lw_cs_sub L xs
  have hA : ∀ q : Nat, s.heap.size ≤ q → (fun q : Nat => s.heap.size ≤ q) q := fun _ h => h
  have hH : mm_H D ad (fun _ => 0) mm_M0 (fun q => s.heap.size ≤ q) s s.heap := by
    refine ⟨fun k q hq => ?_, ⟨fun i j p q hp => ?_, fun k q hq => ?_⟩, ⟨[], hK0, fun k t n h => ?_⟩, fun k j a h => ?_, by decide⟩
    · simp [mm_ws, mm_M0] at hq
    · simp [mm_ws, mm_M0] at hp
    · simp [mm_ws, mm_M0] at hq
    · simp [mm_M0] at h
    · cases h
  have hS : va_S (fun q => s.heap.size ≤ q) s.heap s.heap [] := va_S.rf
  have hm : ([.ref 1004] : List Value).map (mm_v ad) = [Value.ref b] := by
    show [Value.ref (ad 1004)] = _
    rw [had]
  have hl := lv_entry (([.ref 1004] : List Value).map (mm_v ad)) (n := 4) (by rw [mm_sl_len]; decide)
  obtain ⟨M1, hr1, hg1⟩ := lw_c1_ex
  obtain ⟨M2, hr2, hg2⟩ := lw_c2_ex
  unfold lw_c1m at hr1
  unfold lw_c2m at hr2
  obtain ⟨e1, q1⟩ := mm_ag_same hg1 mm_Rx (fun k hk j => by unfold mm_Rx; rw [if_pos hk]) (by decide)
  obtain ⟨e2, q2⟩ := mm_ag_same hg2 mm_R (fun _ _ _ => rfl) (by decide)
  have e138 : mm_sh.take 138 = mm_sh := by decide +kernel
  rw [e138] at e2 q2
  have t1 : (mm_sh.take 108).length = 108 := by decide +kernel
  have t2 : mm_sh.length = 138 := by decide +kernel
  have t0 : mm_M0.1.length = 0 := rfl
  have s0 : mm_S mm_M0.1 = 0 := rfl
  have s1 : mm_S (mm_sh.take 108) ≤ 60000 := by decide +kernel
  have s2 : mm_S mm_sh ≤ 60000 := by decide +kernel
  obtain ⟨r, M', ⟨N, hgo⟩, hq1, hM'⟩ := lw_body hL xs
  subst hq1
  have K : W p l e room_1 s m #[Value.ref b] below meth c s.heap [] 0 0 (lw_Z below #[Value.ref b] s) (entryFrame m (([.ref 1004] : List Value).map (mm_v ad)).toArray 4) := by
    refine lw_W_room (R' := { frames := 41, locals := 2460, cells := 600000, slots := 7302250 }) (by decide) (by decide) (by decide) (by decide) ?_
    rw [lg_entry_eq]
    generalize (lg_sl (([.ref 1004] : List Value).map (mm_v ad)) ++ List.replicate (4 - (lg_sl (([.ref 1004] : List Value).map (mm_v ad))).length) Slot.unset).toArray = la at hl ⊢
    have hL0 : mm_L ad la 4 [some (.ref 1004), none, none, none] := mm_en_L hl (by decide)
    refine lw_run_W (mm_sound l D mm_cs0 600 hcs0 40) (fun _ _ z => z) hcs0 F hA ⟨rfl, rfl⟩ 3 0 _ [] mm_M0 hr1 ad (fun _ => 0) s.heap [] la 0 0 hH (hKc.sub hsub) hS hL0 (by rw [e1]; dsimp only; omega) (by rw [e1]; dsimp only; omega) ?_
    intro ad1 dA1 H1 locs1 la1 hag1 hH1 hS1 hL1
    have h91 : M1.1.length ≤ 900 := hH1.2.2.2.2
    have hH1' := hH1.same (M' := (mm_sh.take 108, mm_Rx, mm_I0, mm_L0)) e1.symm (fun k j a h => by have := mm_Rx_108 h; dsimp only; omega) q1
    have hKc1 := hKc.ad hcsL (fun k hk => hag1 k (Or.inr (by omega)))
    refine lw_run_W (mm_sound l D mm_cs0 600 hcs0 40) (fun _ _ z => z) hcs0 F hA ⟨rfl, rfl⟩ 4 7 _ [.ref 0] (mm_sh.take 108, mm_Rx, mm_I0, mm_L0) hr2 ad1 dA1 H1 locs1 la1 _ _ hH1' (hKc1.sub hsub) hS1 hL1 (by rw [e1, e2]; dsimp only; omega) (by rw [e1, e2]; dsimp only; omega) ?_
    intro ad2 dA2 H2 locs2 la2 hag2 hH2 hS2 hL2
    have h92 : M2.1.length ≤ 900 := hH2.2.2.2.2
    have hH2' := hH2.same (M' := (mm_sh, mm_R, mm_I0, mm_L0)) e2.symm (fun k j a h => by have := mm_R_138 h; dsimp only; omega) q2
    have hKc2 := hKc1.ad hcsL (fun k hk => hag2 k (Or.inr (by omega)))
    refine mm_go_W (mm_sound l D mm_cs0 N hcs0 40) hsub hcsL F hA ⟨rfl, rfl⟩ N 15 _ [.ref 108] (mm_sh, mm_R, mm_I0, mm_L0) hgo ad2 dA2 H2 locs2 la2 _ _ hH2' hKc2 hS2 hL2 (by rw [e1, e2, hM']; dsimp only; omega) (by rw [e1, e2, hM']; dsimp only; omega) ?_
    intro ad3 dA3 H3 locs3 la3 pc3 st3 i hag3 hH3 hS3 hd3 hre
    rcases mm_re_inv hre with ⟨v, rfl, rfl, z0, z⟩ | ⟨v, rfl, rfl, z0, z⟩ | ⟨a, rfl, rfl, z0, z⟩ | ⟨rfl, rfl, z0, z⟩
    · cases z0
      exact W.widen (by rw [e1, e2, hM']; dsimp only; omega) (by rw [e1, e2, hM']; dsimp only; omega) (W.forget (locs := []) (L := locs3) hS3.2.2 (lw_ret hx hb hr hlocks hd3))
    · cases z0
    · cases z0
    · cases z0
  rw [hm] at K
  exact K
-- ===== YOUR PART ENDS =====
set_option maxHeartbeats 4000000 in
theorem lw_walk (l : Launch) (hflags : l.flags = flags0) (b : Addr) (xs : List Int32) : MetFree l x (headSpec (Jvm.Cond.code x code maxLocals ret :: tables_1) room_1) (lw_P b xs) (fun _ _ _ _ _ => True) lw_Q := by
  refine MetFree.of_bodyS (code := code) (maxLocals := maxLocals) (ret := ret) (by decide) ?_ ?_
  · intro args s m h hn
    obtain ⟨meth, c, h1, h2, h3, h4, h5, h6, -, -⟩ := Cond.code_spec hn (atoms_spec (ws := Jvm.Cond.code x code maxLocals ret :: tables_1) h _ List.mem_cons_self)
    exact ⟨meth, c, h1, h2, h3, h4, h5, h6⟩
  · intro p e s m args below meth c s₁ B hml0 hP _
    obtain ⟨rfl, hx, hbd, hgv⟩ := hP
    obtain ⟨scr, harrAt, hlist, hof, hsmall⟩ := hx
    obtain ⟨hcb, hkn, -, -⟩ := State.arrayAt?_spec harrAt
    have hown : s.vm.findClass R_law = some m.cls := findClass_of_methodNamed B.named
    have hts0 : ∀ c ∈ (Jvm.Cond.code x code maxLocals ret :: tables_1), c.before #[Value.ref b] s = true := atoms_spec (ws := Jvm.Cond.code x code maxLocals ret :: tables_1) B.pre
    have hts : ∀ w ∈ lw_tbl, w.before #[Value.ref b] s = true := k2_hts_sels lw_privs (fun w hw => hts0 w (List.mem_cons_of_mem _ hw)) lw_privs_ok
    have hml : c.maxLocals = 4 := B.maxLocals_eq (hts0 _ List.mem_cons_self)
    have X₀ : Stand p l e room_1 s m #[Value.ref b] below meth c s₁ [] 0 0 := Stand.of_body B
    have hh0 : s₁.heap = s.heap := by rw [B.state]; rfl
    have hsz : scr.slots.size = xs.length := by rw [← Array.length_toList, hlist, List.length_map]
    have hval : ∀ j : Nat, j < xs.length → scr.slots[j]? = some (.int (xs.getD j 0)) := fun j hj => by
      rw [← Array.getElem?_toList, hlist]
      simp [hj]
    have hbl : b < s.heap.size := (Array.getElem?_eq_some_iff.mp hcb).1
    have hX : va_X b xs.length (fun j => xs.getD j 0) s s.heap := ⟨scr, hcb, hof, hkn, hsz, hval⟩
    have K : W p l e room_1 s m #[Value.ref b] below meth c s₁.heap [] 0 0 (lw_Z below #[Value.ref b] s) (entryFrame m ([Value.ref b] : List Value).toArray 4) := by
      rw [hh0]
      exact whole_start l hflags hbd ⟨B.exec, B.bytes, B.returns, hml, hown, hts, hX, hbl, B.notSynchronized, hgv⟩
    obtain ⟨t, a1, o, b1, b2, b3⟩ := K s₁ rfl X₀
    exact ⟨t, o, a1, b1, b2, b3⟩
theorem lw_pre_spec {args : Array Value} {s : State} (h : (Jvm.Cond.and given_1 narrow_1).before args s = true) (hr : rest_1_c.before args s = true) : ∃ (b : Addr) (xs : List Int32), lw_P b xs args s := by
  have hs := flat_of_before _ h
  have hq := flat_of_before _ hr
  have hc : (Cond.count 1).before args s = true := hs _ (by decide +kernel)
  have harr : (Cond.arrayOf (.arg 0) .int).before args s = true := hs _ (by decide +kernel)
  have hle : (Cond.le (.length (.arg 0)) (.int 3072)).before args s = true := hs _ (by decide +kernel)
  have hlen : (Cond.isInt (.length (.arg 0))).before args s = true := hq _ (by decide +kernel)
  have hall : (Cond.all (.arg 0) (.isInt (.elem (.arg 0) (.index 0)))).before args s = true := hq _ (by decide +kernel)
  obtain ⟨b, xs, hb, hx⟩ := State.ints_of_pre rfl harr hlen hall
  have hsm : xs.length < 2 ^ 31 := hx.choose_spec.2.2.2
  have hev : (Term.length (.arg 0)).eval args s none [] s = some (.int xs.length.toInt32) := hx.length_eval hb
  have hv := Cond.le_ints hev (show (Term.int 3072).eval args s none [] s = some (.int 3072) from rfl)
  have hd : xs.length.toInt32 ≤ 3072 := by
    simpa [Cond.before, Cond.holds, hv] using hle
  have hN : xs.length ≤ 3072 := (Int32.ofNat_le_ofNat hsm (by decide)).mp (show Int32.ofNat xs.length ≤ Int32.ofNat 3072 from hd)
  exact ⟨b, xs, Cond.one_arg hc (show args[0]? = some (.ref b) from hb), hx, hN, h⟩
theorem lw_comes (l : Launch) (hflags : l.flags = flags0) : Comes l x (Jvm.Cond.code x code maxLocals ret :: tables_1) room_1 (fun tb e args s => Calls_1 tb e args s ∧ rest_1 tb e args s ∧ Pre_1 tb e args s)
    (fun _ _ args s o t => lw_Q args s o t) := by
  intro p e ha hc hk s m args below hf hfit hheap happ hpre
  obtain ⟨b, xs, hP⟩ := lw_pre_spec hpre.2.2 hpre.2.1
  obtain ⟨k, o, h1, h2, h3, hQ⟩ := lw_walk l hflags b xs p e ha hc hk s m args below hf ((Spec.applies_iff_loose hf).mp happ).1 hP trivial
  exact ⟨k, o, h1, h2, h3, hQ⟩
theorem lw_frame {s t : State} {o : Outcome} {args : Array Value} (h : Framed s o t [] 600000 7302250) :
    Framed s o t (fieldLocs frame_1_writes args s ++ arrayLocs frame_1_arrays args s ++ staticLocs frame_1_statics s) 600000 7302250 := h
theorem lw_limb (L : Cond) (hL : ∀ (args : Array Value) (s t : State), L.after args s (.returned (some (.int 1))) t = true) :
    ArmFor flags0 classFile x code maxLocals ret World_1 tables_1 room_1 Calls_1 rest_1 Pre_1
      (fun tb e a s o t => postC L tb e a s o t ∧ Framed s o t (fieldLocs frame_1_writes a s ++ arrayLocs frame_1_arrays a s ++ staticLocs frame_1_statics s) 600000 7302250) := by
  intro l hflags _ _ p e ha hc hk s m args below hf hfit hheap happ hpre
  obtain ⟨k, o, h1, h2, h3, rfl, hF⟩ := lw_comes l hflags p e ha hc hk s m args below hf hfit hheap happ hpre
  exact ⟨k, _, h1, h2, h3, hL args s _, lw_frame hF⟩
theorem i_vc : Claimed_1_1 ∧ Claimed_1_2 := ⟨lw_limb limb_1_1 (fun args s t => by simp [limb_1_1, Cond.after, Cond.holds, Cond.value]), lw_limb limb_1_2 (fun args s t => Cond.after_iff.mpr (by
  first | (rw [show limb_1_2 = Cond.eq .result (.int 1) from rfl, Cond.eq_ints (x := 1) (y := 1) rfl rfl]; simp; done) | (simp [limb_1_2, Cond.value, Term.eval]; done)))⟩
