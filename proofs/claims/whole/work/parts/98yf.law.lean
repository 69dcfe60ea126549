/-! THE LAW: what holds at its entry -/
def lw_fl : List Cond := flatC (Jvm.Cond.and given_1 narrow_1)
def lw_tm (i : Nat) : Term := .string RX5 (mm_srs.getD i (0, "")).1
def lw_arr : List (String × String × List Int32) := [(RX8, "ABOVE", [-1, 0, 0, 1, 0, 2, 4]), (RX8, "LEAST_TERM", [1, 1, 0, 0]), (RX8, "MOST_TERM", [200, 20, 9, 60]), (RX3, "BODIES", [10, 20, 0, 0, 51, 0, 70, 11, 0, 30, 40, 0, 0, 71, 12, 0, 0, 0, 50, 60, 0])]
set_option maxRecDepth 100000 in
theorem lw_arr_ok : ∀ q ∈ lw_arr, q.2.2.length < 2 ^ 31 ∧ Cond.arrayOf (.static q.1 q.2.1 "[I") .int ∈ lw_fl ∧ Cond.eq (.length (.static q.1 q.2.1 "[I")) (.int (Int32.ofNat q.2.2.length)) ∈ lw_fl ∧ (∀ j, j < q.2.2.length → Cond.eq (.elem (.static q.1 q.2.1 "[I") (.int (Int32.ofNat j))) (.int (q.2.2.getD j 0)) ∈ lw_fl) ∧ Cond.laysStatic q.1 q.2.1 "[I" ∈ lw_tbl ∧ Cond.initialized q.1 ∈ lw_tbl := by decide +kernel
set_option maxRecDepth 100000 in
theorem lw_str_ok : ∀ i, i < 8 → mm_syl.getD i 0 < 2 ^ 31 ∧ Cond.exactly (lw_tm i) "java/lang/String" ∈ lw_fl ∧ Cond.eq (.field (lw_tm i) "java/lang/String" "coder" "B") (.int 0) ∈ lw_fl ∧ Cond.arrayOf (.field (lw_tm i) "java/lang/String" "value" "[B") .byte ∈ lw_fl ∧ Cond.eq (.length (.field (lw_tm i) "java/lang/String" "value" "[B")) (.int (Int32.ofNat (mm_syl.getD i 0))) ∈ lw_fl ∧ (∀ j, j < mm_syl.getD i 0 → Cond.eq (.elem (.field (lw_tm i) "java/lang/String" "value" "[B") (.int (Int32.ofNat j))) (.int ((mm_ss.getD i []).getD j 0)) ∈ lw_fl) ∧ Cond.stringRef RX5 (mm_srs.getD i (0, "")).1 (mm_srs.getD i (0, "")).2 ∈ lw_tbl := by decide +kernel
set_option maxRecDepth 100000 in
theorem lw_str_ne : ∀ i, i < 8 → ∀ j, j < 8 → i ≠ j → (Cond.not (Cond.eq (lw_tm i) (lw_tm j)) ∈ lw_fl ∨ Cond.not (Cond.eq (lw_tm j) (lw_tm i)) ∈ lw_fl) := by decide +kernel
set_option maxRecDepth 100000 in
theorem lw_nst_ok : ∀ w ∈ mm_nst, w ∈ lw_tbl ∧ w.onTables = true := by decide +kernel
set_option maxRecDepth 100000 in
theorem lw_ao_ok : ∀ c ∈ ([0, 4, 6, 7] : List Nat), Cond.arrayOver (.object (mm_RN c)) ∈ lw_tbl := by decide +kernel
set_option maxRecDepth 100000 in
theorem lw_jdk_ok : Cond.laysStatic "java/lang/String" "COMPACT_STRINGS" "Z" ∈ lw_tbl ∧ Cond.initialized "java/lang/String" ∈ lw_tbl ∧ Cond.eq (.static "java/lang/String" "COMPACT_STRINGS" "Z") (.int 1) ∈ lw_fl ∧ Cond.laysStatic "jdk/internal/util/Preconditions" "SIOOBE_FORMATTER" "Ljava/util/function/BiFunction;" ∈ lw_tbl ∧ Cond.initialized "jdk/internal/util/Preconditions" ∈ lw_tbl ∧ Cond.isRef (.static "jdk/internal/util/Preconditions" "SIOOBE_FORMATTER" "Ljava/util/function/BiFunction;") ∈ lw_fl := by decide +kernel
set_option maxRecDepth 100000 in
theorem lw_inst : (List.range 10).all (fun c => match vwCl[c]? with | some q => mm_wk (.instantiable q.1 q.2.2) | none => false) = true := by decide +kernel
def lw_ad (t : Nat → Nat) (b : Nat) (aK aV : Nat → Nat) : Nat → Nat := fun q => if q < 1004 then t (q - 1000) else if q = 1004 then b else if q < 1200 then aK (q - 1100) else aV (q - 1200)
theorem lw_ad_K (t : Nat → Nat) (b : Nat) (aK aV : Nat → Nat) {i : Nat} (h : i < 8) : lw_ad t b aK aV (1100 + i) = aK i := by
  unfold lw_ad
  rw [if_neg (by omega), if_neg (by omega), if_pos (by omega), Nat.add_sub_cancel_left]
theorem lw_ad_V (t : Nat → Nat) (b : Nat) (aK aV : Nat → Nat) (i : Nat) : lw_ad t b aK aV (1200 + i) = aV i := by
  unfold lw_ad
  rw [if_neg (by omega), if_neg (by omega), if_neg (by omega), Nat.add_sub_cancel_left]
theorem lw_arrT {args : Array Value} {s : State} (hs : ∀ c ∈ lw_fl, c.before args s = true) (hts : ∀ w ∈ lw_tbl, w.before args s = true) {A : Nat → Prop} (hA : ∀ a : Nat, a < s.heap.size → ¬ A a) {q : String × String × List Int32} (hq : q ∈ lw_arr) : ∃ t : Nat, va_T .int t q.2.2.length (fun j => .int (q.2.2.getD j 0)) A s s.heap ∧ va_Z q.1 q.2.1 "[I" (.ref t) A s s.heap := by
  obtain ⟨a0, a1, a2, a3, a4, a5⟩ := lw_arr_ok q hq
  obtain ⟨t, ht, hT⟩ := va_Tof (f := fun j => .int (q.2.2.getD j 0)) (N := q.2.2.length) (A := A) a0 (hs _ a1) (va_eqt (hs _ a2)) (fun j hj => va_eqt (hs _ (a3 j hj))) hA
  exact ⟨t, hT, va_Zref (hts _ a4) (hts _ a5) ht hA⟩
theorem lw_Kc {args : Array Value} {s : State} {b L : Nat} {xs : Nat → Int32} (hs : ∀ c ∈ lw_fl, c.before args s = true) (hts : ∀ w ∈ lw_tbl, w.before args s = true) (hX : va_X b L xs s s.heap) (hb : b < s.heap.size) : ∃ ad : Nat → Nat, ad 1004 = b ∧ mm_Kc (lw_cs L xs) ad (fun q => s.heap.size ≤ q) s s.heap := by
  have hA : ∀ a : Nat, a < s.heap.size → ¬ (fun q => s.heap.size ≤ q) a := fun a h z => absurd h (Nat.not_lt.mpr z)
  obtain ⟨t0, hT0, hZ0⟩ := lw_arrT hs hts hA (q := (RX8, "ABOVE", [-1, 0, 0, 1, 0, 2, 4])) (by decide +kernel)
  obtain ⟨t1, hT1, hZ1⟩ := lw_arrT hs hts hA (q := (RX8, "LEAST_TERM", [1, 1, 0, 0])) (by decide +kernel)
  obtain ⟨t2, hT2, hZ2⟩ := lw_arrT hs hts hA (q := (RX8, "MOST_TERM", [200, 20, 9, 60])) (by decide +kernel)
  obtain ⟨t3, hT3, hZ3⟩ := lw_arrT hs hts hA (q := (RX3, "BODIES", [10, 20, 0, 0, 51, 0, 70, 11, 0, 30, 40, 0, 0, 71, 12, 0, 0, 0, 50, 60, 0])) (by decide +kernel)
  obtain ⟨aK, aV, hV, hE⟩ := vk_Sof (N := 8) (tm := lw_tm) (len := mm_syl) (byt := mm_ss) (A := fun q => s.heap.size ≤ q) (fun i hi => (lw_str_ok i hi).1) (fun i hi => hs _ (lw_str_ok i hi).2.1) (fun i hi => hs _ (lw_str_ok i hi).2.2.1) (fun i hi => hs _ (lw_str_ok i hi).2.2.2.1) (fun i hi => hs _ (lw_str_ok i hi).2.2.2.2.1) (fun i hi j hj => hs _ ((lw_str_ok i hi).2.2.2.2.2.1 j hj)) (fun i j hi hj h => (lw_str_ne i hi j hj h).elim (fun z => Or.inl (hs _ z)) (fun z => Or.inr (hs _ z))) hA
  obtain ⟨j1, j2, j3, j4, j5, j6⟩ := lw_jdk_ok
  refine ⟨lw_ad (fun k => if k = 0 then t0 else if k = 1 then t1 else if k = 2 then t2 else t3) b aK aV, rfl, ?_, ?_, ?_, ?_, ?_, ?_, ?_, ?_⟩
  · intro q hq
    unfold mm_stt at hq
    simp only [List.mem_cons, List.not_mem_nil, or_false] at hq
    rcases hq with h | h | h | h <;> subst h
    · exact hZ0
    · exact hZ1
    · exact hZ2
    · exact hZ3
  · intro k n f hk
    unfold lw_cs at hk
    split at hk
    · rename_i h4
      subst h4
      cases hk
      obtain ⟨scr, g1, g2, g3, g4, g5⟩ := hX
      exact ⟨scr, g1, g2, g3, by omega, by rw [g4], g5, hA b hb⟩
    · unfold mm_cs0 at hk
      split at hk
      · cases hk; exact hT0
      · cases hk; exact hT1
      · cases hk; exact hT2
      · cases hk; exact hT3
      · cases hk
  · intro w hw
    exact va_Nw.of (lw_nst_ok w hw).2 (hts w (lw_nst_ok w hw).1)
  · intro c hc
    exact va_AO.of (hts _ (lw_ao_ok c hc))
  · refine ⟨fun i hi => ?_, fun i j hi hj e => ?_⟩
    · have h := hV.1 i hi
      dsimp only
      rw [lw_ad_K _ b aK aV hi, lw_ad_V]
      exact h
    · dsimp only at e
      rw [lw_ad_K _ b aK aV hi, lw_ad_K _ b aK aV hj] at e
      exact hV.2 i j hi hj e
  · intro i q hq
    have hi : i < 8 := (List.getElem?_eq_some_iff.mp hq).1
    have e : mm_srs.getD i (0, "") = q := by simp [List.getD, hq]
    rw [lw_ad_K _ b aK aV hi]
    have h1 := hts _ (lw_str_ok i hi).2.2.2.2.2.2
    have h2 := hE i hi
    unfold lw_tm at h2
    rw [e] at h1 h2
    exact vk_R.of h1 h2
  · exact va_Zof (hts _ j1) (hts _ j2) (va_eqi (hs _ j3)) hA
  · exact va_Zqof (hts _ j4) (hts _ j5) (hs _ j6) hA
theorem lw_D {args : Array Value} {s : State} (hts : ∀ w ∈ mm_MW, w.before args s = true) : ∃ D : va_G, va_K D vwCl [] s := by
  have h : ∀ c : Nat, ∃ d : ClassId × (Nat → Nat), ∀ q, vwCl[c]? = some q → u_Kn s q.1 q.2.1 q.2.2 d.1 d.2 := by
    intro c
    by_cases hc : c < 10
    · obtain ⟨C, T, N, e1, e2, e3, -, -, e6⟩ := mm_Cl_all c hc
      have hi := List.all_eq_true.mp lw_inst c (List.mem_range.mpr hc)
      rw [e1] at hi
      obtain ⟨cC, iS, hk⟩ := u_known hts e6 (hts _ (mm_wk_in hi))
      exact ⟨(cC, iS), fun q hq => by rw [e1] at hq; cases hq; exact hk⟩
    · exact ⟨(0, fun _ => 0), fun q hq => absurd (List.getElem?_eq_some_iff.mp hq).1 (by show ¬ c < 10; exact hc)⟩
  obtain ⟨f, hf⟩ := Classical.axiomOfChoice h
  exact ⟨(fun c => (f c).1, fun c => (f c).2), fun c q hq => hf c q hq, fun k q hq => by simp at hq⟩
