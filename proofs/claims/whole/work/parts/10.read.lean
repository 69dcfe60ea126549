/-- the texts -/
def mm_Ks (ad : Nat → Nat) (A : Nat → Prop) (U : State) (H : Heap) : Prop :=
  vk_S 8 mm_syl mm_ss (fun i => ad (1100 + i)) (fun i => ad (1200 + i)) A U H ∧ (∀ i q, mm_srs[i]? = some q → vk_R RX5 q.1 q.2 (ad (1100 + i)) U) ∧ va_Z "java/lang/String" "COMPACT_STRINGS" "Z" (.int 1) A U H ∧ va_Zq "jdk/internal/util/Preconditions" "SIOOBE_FORMATTER" "Ljava/util/function/BiFunction;" A U H
/-- the constants -/
def mm_Kc (cs : mm_Cs) (ad : Nat → Nat) (A : Nat → Prop) (U : State) (H : Heap) : Prop :=
  (∀ q ∈ mm_stt, va_Z q.1 q.2.1 "[I" (.ref (ad q.2.2)) A U H) ∧ (∀ k n f, cs k = some (n, f) → va_T .int (ad k) n (fun j => .int (f j)) A U H) ∧ (∀ w ∈ mm_nst, va_Nw w U) ∧ (∀ c ∈ ([0, 4, 6, 7] : List Nat), va_AO (mm_RN c) U) ∧ mm_Ks ad A U H
def mm_Fx (p : Program) (s : State) (m : MethodId) (args : Array Value) (meth : Method) (c : Code) (own : Nat) (b : ByteArray) (nL : Nat) (rt : Option FieldType) (ini : Bool) : Prop :=
  p.tables.exec = Jvm.exec ∧ c.code = b ∧ c.maxLocals = nL ∧ s.vm.findClass (mm_RN own) = some m.cls ∧ (∀ w ∈ mm_MW, w.before args s = true) ∧ meth.locks = false ∧ meth.sig.returnType = rt ∧ (ini = true → meth.name = "<init>")
theorem mm_cel_o {ad : Nat → Nat} {cA : ClassId} {c n : Nat} {Rr : Nat → Option Nat} {Ir : Nat → Int32} {Lr : Nat → Int64} (h : c < 10) : mm_cel ad cA (c, n) Rr Ir Lr = .inr (c, (List.range (mm_fn c)).map (fun j => if mm_ft c j = 2 then va_rf ((Rr j).map ad) else .int (Ir j))) := by
  unfold mm_cel
  rw [if_pos (show c < 100 by omega)]
theorem mm_cel_i {ad : Nat → Nat} {cA : ClassId} {n : Nat} {Rr : Nat → Option Nat} {Ir : Nat → Int32} {Lr : Nat → Int64} : mm_cel ad cA (100, n) Rr Ir Lr = .inl (cA, n, .inl Ir) := rfl
theorem mm_cel_l {ad : Nat → Nat} {cA : ClassId} {n : Nat} {Rr : Nat → Option Nat} {Ir : Nat → Int32} {Lr : Nat → Int64} : mm_cel ad cA (101, n) Rr Ir Lr = .inl (cA, n, .inr (.inl Lr)) := rfl
theorem mm_cel_r {ad : Nat → Nat} {cA : ClassId} {t n : Nat} {Rr : Nat → Option Nat} {Ir : Nat → Int32} {Lr : Nat → Int64} (h : 102 ≤ t) : mm_cel ad cA (t, n) Rr Ir Lr = .inl (cA, n, .inr (.inr (.inr (.inr (fun j => (Rr j).map ad))))) := by
  unfold mm_cel
  rw [if_neg (show ¬ t < 100 by omega), if_neg (show ¬ t = 100 by omega), if_neg (show ¬ t = 101 by omega)]
theorem mm_in_of {x : Int32} {n : Nat} (h : mm_in x n = true) : vp_in x n := by
  unfold mm_in at h
  simp only [Bool.and_eq_true, Bool.not_eq_true', decide_eq_false_iff_not, decide_eq_true_eq] at h
  exact fun z => z.elim (fun a => h.1 a) (fun a => by omega)
theorem mm_rf_map (ad : Nat → Nat) (o : Option Nat) : mm_v ad (va_rf o) = va_rf (o.map ad) := by cases o <;> rfl
theorem mm_ty_r {t : Nat} (h : 102 ≤ t) : mm_ty t = .object (mm_RN (t - 102)) := by
  unfold mm_ty
  rw [if_neg (show ¬ t = 100 by omega), if_neg (show ¬ t = 101 by omega)]
def mm_ckS (own : Nat) (e : Nat × Nat × Nat) : Bool := mm_stt.any (fun q => decide (q.2.2 = e.2.1) && (if e.2.2 = 0 then mm_wk (.fieldLink (mm_RN own) e.1 q.1 q.2.1 "[I") else decide (Cond.fieldLinkNest (mm_RN own) e.1 q.1 q.2.1 "[I" RX8 ∈ mm_nst)))
set_option maxRecDepth 100000 in
theorem mm_ckS_0 : ∀ own, own < 11 → (mm_sl own).all (mm_ckS own) = true := by decide +kernel
theorem mm_sl_big {own : Nat} (h : 11 ≤ own) : mm_sl own = [] := by
  obtain ⟨k, rfl⟩ : ∃ k, own = k + 11 := ⟨own - 11, by omega⟩
  rfl
set_option maxRecDepth 100000 in
theorem mm_ckN_0 : ∀ own, own < 11 → (mm_cn own).all (fun e => mm_wk (.constant (mm_RN own) e.1 e.2)) = true := by decide +kernel
theorem mm_cn_big {own : Nat} (h : 11 ≤ own) : mm_cn own = [] := by
  obtain ⟨k, rfl⟩ : ∃ k, own = k + 11 := ⟨own - 11, by omega⟩
  rfl
set_option maxRecDepth 100000 in
theorem mm_con_ck {own idx : Nat} {v : Int32} (hv : mm_con own idx = some v) : mm_wk (.constant (mm_RN own) idx v) = true := by
  have h1 : (idx, v) ∈ mm_cn own := mm_find hv
  by_cases z : own < 11
  · have h2 := List.all_eq_true.mp (mm_ckN_0 own z) (idx, v) h1
    exact h2
  · rw [mm_cn_big (by omega)] at h1; cases h1
theorem mm_ldc2_ok : Cond.constantLong RL 18 4294967295 ∈ mm_MW := mm_wk_in (by decide +kernel)
section MMR
variable {p : Program} {l : Launch} {e : Env} {R : Room} {s : State} {m : MethodId} {args : Array Value} {below : List Frame} {meth : Method} {c : Code} {H : Heap} {locs : List Loc} {cells slots : Nat} {Q : State → Prop}
variable {cc : ByteArray} {pc : Nat} {la : Array Slot} {nL : Nat} {D : va_G} {ad : Nat → Nat} {dA : Nat → ClassId} {M : mm_M} {A : Nat → Prop} {cs : mm_Cs} {own : Nat} {rt : Option FieldType} {ini : Bool}
set_option maxHeartbeats 1000000 in
theorem mm_rd_W (F : mm_Fx p s m args meth c own cc nL rt ini) (hH : mm_H D ad dA M A s H) (hK : mm_Kc cs ad A s s.heap) (hS : va_S A s.heap H locs) {i : Instr} {st st' : List Value} (h : mm_rd cs own i st M = some st') (hd : decode cc pc = .ok (i, mm_ln i))
    (k : W p l e R s m args below meth c H locs cells slots Q (F0 m (pc + mm_ln i) la (st'.map (mm_v ad)))) : W p l e R s m args below meth c H locs cells slots Q (F0 m pc la (st.map (mm_v ad))) := by
  obtain ⟨hx, hb, hml, hown, hts, -, -, -⟩ := F
  obtain ⟨hP, hD, ⟨tys, hKt, hty⟩, hR, -⟩ := hH
  unfold mm_rd at h
  cases i
  case getfield idx =>
    dsimp only at h
    split at h
    · rename_i a r
      split at h
      · rename_i cj c0 j hf
        split at h
        · rename_i hk
          cases h
          have ck := mm_fld_ck hf
          unfold mm_ckF at ck
          dsimp only at ck
          split at ck
          · rename_i q hq
            simp only [Bool.and_eq_true, decide_eq_true_eq] at ck
            obtain ⟨⟨⟨⟨⟨k1, k2⟩, k3⟩, k4⟩, k5⟩, k6⟩ := ck
            obtain ⟨C, T, N, e1, e2, e3, -, -, e4⟩ := mm_Cl_all c0 k2
            cases hq.symm.trans e1
            have hc := mm_ws_get (ad := ad) (dA := dA) hk
            rw [mm_cel_o k2] at hc
            have hj : j < N := k1
            refine va_get (ref := (T j).1) (C := C) (T := T) (N := N) hx hb hts e4 hown hKt hP a hc e1 j hj (hts _ (mm_wk_in k3)) (fun _ z => z) (v := mm_v ad (mm_ga M a j (mm_ft c0 j))) ?_ hd k
            rw [List.getElem?_map, List.getElem?_range (by rw [← e2]; exact hj)]
            show some (if mm_ft c0 j = 2 then va_rf ((M.2.1 a j).map ad) else Value.int (M.2.2.1 a j)) = some (mm_v ad (if mm_ft c0 j = 2 then va_rf (M.2.1 a j) else .int (M.2.2.1 a j)))
            congr 1
            split
            · rw [mm_rf_map]
            · rfl
          · cases ck
        · cases h
      · cases h
    · cases h
  case getstatic idx =>
    dsimp only at h
    split at h
    · rename_i a f hf
      cases h
      have h1 : (idx, a, f) ∈ mm_sl own := mm_find hf
      have h2 : mm_ckS own (idx, a, f) = true := by
        by_cases z : own < 11
        · exact List.all_eq_true.mp (mm_ckS_0 own z) _ h1
        · rw [mm_sl_big (by omega)] at h1; cases h1
      unfold mm_ckS at h2
      obtain ⟨q, hq, hz⟩ := List.any_eq_true.mp h2
      rw [Bool.and_eq_true] at hz
      have ha : q.2.2 = a := of_decide_eq_true hz.1
      have hZ := hK.1 q hq
      rw [ha] at hZ
      by_cases h0 : f = 0
      · have hw := hz.2
        rw [if_pos h0] at hw
        exact va_gets hx hb hZ hS hown (hts _ (mm_wk_in hw)) (fun _ z => z) hd k
      · have hw := hz.2
        rw [if_neg h0] at hw
        exact va_getsN hx hb hZ hS hown (va_Nw.use rfl (hK.2.2.1 _ (of_decide_eq_true hw))) (fun _ z => z) hd k
    · cases h
  case ldc idx =>
    dsimp only at h
    split at h
    · rename_i v hv
      cases h
      have h2 := mm_con_ck hv
      exact lv_ldc hx hb hown (hts _ (mm_wk_in h2)) hd k
    · split at h
      · rename_i a ha
        cases h
        have h1 : (idx, a) ∈ mm_tl own := mm_find ha
        unfold mm_tl at h1
        by_cases z : own = 5
        · rw [if_pos z] at h1
          subst z
          have h2 : ∃ i q, mm_srs[i]? = some q ∧ q.1 = idx ∧ 1100 + i = a := by
            simp only [List.mem_cons, List.not_mem_nil, or_false, Prod.mk.injEq] at h1
            rcases h1 with ⟨rfl, rfl⟩ | ⟨rfl, rfl⟩ | ⟨rfl, rfl⟩ | ⟨rfl, rfl⟩ | ⟨rfl, rfl⟩ | ⟨rfl, rfl⟩ | ⟨rfl, rfl⟩ | ⟨rfl, rfl⟩
            · exact ⟨0, _, rfl, rfl, rfl⟩
            · exact ⟨1, _, rfl, rfl, rfl⟩
            · exact ⟨2, _, rfl, rfl, rfl⟩
            · exact ⟨3, _, rfl, rfl, rfl⟩
            · exact ⟨4, _, rfl, rfl, rfl⟩
            · exact ⟨5, _, rfl, rfl, rfl⟩
            · exact ⟨6, _, rfl, rfl, rfl⟩
            · exact ⟨7, _, rfl, rfl, rfl⟩
          obtain ⟨i, q, g1, g2, g3⟩ := h2
          have hZ := hK.2.2.2.2.2.1 i q g1
          rw [g2, g3] at hZ
          exact va_ldcS hx hb hown hZ hd k
        · rw [if_neg z] at h1; cases h1
      · cases h
  case ldc_w idx =>
    dsimp only at h
    split at h
    · rename_i v hv
      cases h
      have h2 := mm_con_ck hv
      exact lv_ldcw hx hb hown (hts _ (mm_wk_in h2)) hd k
    · cases h
  case ldc2_w idx =>
    dsimp only at h
    split at h
    · rename_i hz
      obtain ⟨rfl, rfl⟩ := hz
      cases h
      exact lv_ldc2 hx hb hown (hts _ mm_ldc2_ok) hd k
    · cases h
  case arraylength =>
    dsimp only at h
    split at h
    · rename_i a r
      split at h
      · rename_i n f hc
        cases h
        exact va_tlen hx hb (hK.2.1 a n f hc) hS rfl hd k
      · split at h
        · rename_i t n hk
          split at h
          · rename_i ht
            cases h
            obtain ⟨t0, h0⟩ := hty a t n hk ht
            have hc := mm_ws_get (ad := ad) (dA := dA) hk
            have hc2 : mm_cel ad (dA a) (t, n) (M.2.1 a) (M.2.2.1 a) (M.2.2.2 a) = .inl (dA a, n, if t = 100 then .inl (M.2.2.1 a) else if t = 101 then .inr (.inl (M.2.2.2 a)) else .inr (.inr (.inr (.inr (fun j => (M.2.1 a j).map ad))))) := by
              unfold mm_cel
              rw [if_neg (show ¬ t < 100 by omega)]
            rw [hc2] at hc
            exact va_alen hx hb hKt hP a t0 hc h0 rfl hd k
          · cases h
        · cases h
    · cases h
  case iaload =>
    dsimp only at h
    split at h
    · rename_i x a r
      split at h
      · rename_i n f hc
        split at h
        · rename_i hi
          cases h
          exact va_ti hx hb (hK.2.1 a n f hc) hS (mm_in_of hi) rfl hd k
        · cases h
      · split at h
        · rename_i t n hk
          split at h
          · rename_i hi
            obtain ⟨rfl, hi⟩ := hi
            cases h
            obtain ⟨t0, h0⟩ := hty a _ n hk (Nat.le_refl _)
            have hc := mm_ws_get (ad := ad) (dA := dA) hk
            exact va_iald hx hb hKt hP a t0 hc h0 (mm_in_of hi) hd k
          · cases h
        · cases h
    · cases h
  case laload =>
    dsimp only at h
    split at h
    · rename_i x a r
      split at h
      · rename_i t n hk
        split at h
        · rename_i hi
          obtain ⟨rfl, hi⟩ := hi
          cases h
          obtain ⟨t0, h0⟩ := hty a _ n hk (by omega)
          have hc := mm_ws_get (ad := ad) (dA := dA) hk
          exact va_lald hx hb hKt hP a t0 hc h0 (mm_in_of hi) hd k
        · cases h
      · cases h
    · cases h
  case aaload =>
    dsimp only at h
    split at h
    · rename_i x a r
      split at h
      · rename_i t n hk
        split at h
        · rename_i hi
          obtain ⟨ht, hi⟩ := hi
          cases h
          obtain ⟨t0, h0⟩ := hty a _ n hk (by omega)
          have hc := mm_ws_get (ad := ad) (dA := dA) hk
          rw [mm_cel_r ht] at hc
          rw [mm_ty_r ht] at h0
          rw [List.map_cons, mm_rf_map] at k
          exact va_aldq hx hb hKt hP a t0 hc h0 (mm_in_of hi) hd k
        · cases h
      · cases h
    · cases h
  all_goals cases h
end MMR
