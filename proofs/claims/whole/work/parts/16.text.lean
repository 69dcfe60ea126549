/-! THE LITTLE MACHINE IS SOUND: the texts' members -/
def mm_jw (y : MethodName) (b : ByteArray) (n : Nat) (r : Option FieldType) : List Cond := .code y b n r :: mm_MW
def mm_jR (f n : Nat) : Room := { frames := f, cells := 0, slots := 0, locals := n }
def mm_Pj (av : List Value) (ad : Nat → Nat) (A : Nat → Prop) : Array Value → State → Prop := va_Pc av (fun U => mm_Ks ad A U U.heap)
theorem mm_Pj.blind {av : List Value} {ad : Nat → Nat} {A : Nat → Prop} : FrameBlind (mm_Pj av ad A) := by
  intro a U g mk h
  obtain ⟨h0, h1, h2, h3, h4⟩ := h
  have hal : U.vm.Alike (U.calling g mk a).vm := Vm.Alike.refl U.vm
  have hv : U.vm = (U.calling g mk a).vm := rfl
  exact ⟨h0, vk_S.moved (U := U.calling g mk a) hal h1, fun i q hi => vk_R.same (U := U.calling g mk a) hv.symm (h2 i q hi), va_Z.moved (U := U.calling g mk a) hal h3, va_Zq.moved (U := U.calling g mk a) hal h4⟩
theorem mm_Ks.call {ad : Nat → Nat} {A : Nat → Prop} {s U : State} {H H1 : Heap} (h : mm_Ks ad A s H) (hW : s.WarmedH U.vm) (hq : ∀ a : Nat, a < H.size → ¬ A a → H1[a]? = H[a]?) : mm_Ks ad A U H1 := by
  obtain ⟨h1, h2, h3, h4⟩ := h
  have hvm := hW.alike
  exact ⟨(vk_S.moved hvm h1).kept hq, fun i q hi => vk_R.warm hW (h2 i q hi), (va_Z.moved hvm h3).kept hq, va_Zq.kept (va_Zq.moved hvm h4) hq⟩
theorem mm_jG {y : MethodName} {b : ByteArray} {n : Nat} {r : Option FieldType} (h : Cond.code y b n r ∈ mm_MW) : ∀ w ∈ mm_jw y b n r, w ∈ mm_MW := by
  intro w hw
  rcases List.mem_cons.mp hw with z | z
  · rw [z]; exact h
  · exact z
theorem mm_jV {own : String} {idx : Nat} {y : MethodName} {b : ByteArray} {n : Nat} {r : Option FieldType} (h : Cond.code y b n r ∈ mm_MW) (h1 : mm_wk (.methodLink own idx y) = true) (h2 : mm_wk (.instanceMethod y) = true) (h3 : mm_wk (.selects y.cls y y) = true) (h4 : mm_wk (.initialized y.cls) = true) : GoodIn mm_MW (wsV own idx y.cls y (mm_jw y b n r)) := mm_G (Ts := mm_MW) (fun w hw => by
  unfold wsV at hw
  rcases List.mem_append.mp hw with z | z
  · simp only [List.mem_cons, List.not_mem_nil, or_false] at z
    rcases z with z | z | z | z <;> rw [z] <;> apply mm_wk_in <;> assumption
  · exact mm_jG h w z)
theorem mm_jS {own : String} {idx : Nat} {y : MethodName} {b : ByteArray} {n : Nat} {r : Option FieldType} (h : Cond.code y b n r ∈ mm_MW) (h1 : mm_wk (.methodLink own idx y) = true) (h2 : mm_wk (.static y) = true) (h4 : mm_wk (.initialized y.cls) = true) : GoodIn mm_MW (va_wsS own idx y (mm_jw y b n r)) := mm_G (Ts := mm_MW) (fun w hw => by
  unfold va_wsS at hw
  rcases List.mem_append.mp hw with z | z
  · simp only [List.mem_cons, List.not_mem_nil, or_false] at z
    rcases z with z | z | z <;> rw [z] <;> apply mm_wk_in <;> assumption
  · exact mm_jG h w z)
set_option maxRecDepth 100000 in
theorem mm_jc1 : mm_wk (.code yJ0_coder_7d493 cJ0_coder_7d493 1 (some .byte)) = true ∧ mm_wk (.methodLink RJ0 335 yJ0_coder_7d493) = true ∧ mm_wk (.instanceMethod yJ0_coder_7d493) = true ∧ mm_wk (.selects RJ0 yJ0_coder_7d493 yJ0_coder_7d493) = true ∧ mm_wk (.initialized RJ0) = true ∧ mm_wk (.fieldLink RJ0 38 "java/lang/String" "COMPACT_STRINGS" "Z") = true ∧ mm_wk (.fieldLink RJ0 15 "java/lang/String" "coder" "B") = true ∧ mm_wk (.fieldLink RJ0 9 "java/lang/String" "value" "[B") = true := by decide +kernel
set_option maxRecDepth 100000 in
theorem mm_jc2 : mm_wk (.code yJ0_isLatin1_aae02 cJ0_isLatin1_aae02 1 (some .boolean)) = true ∧ mm_wk (.methodLink RJ0 492 yJ0_isLatin1_aae02) = true ∧ mm_wk (.instanceMethod yJ0_isLatin1_aae02) = true ∧ mm_wk (.selects RJ0 yJ0_isLatin1_aae02 yJ0_isLatin1_aae02) = true := by decide +kernel
set_option maxRecDepth 100000 in
theorem mm_jc3 : mm_wk (.code yJ3_checkIndex_8e157 cJ3_checkIndex_8e157 3 (some .int)) = true ∧ mm_wk (.methodLink RJ0 1059 yJ3_checkIndex_8e157) = true ∧ mm_wk (.static yJ3_checkIndex_8e157) = true ∧ mm_wk (.initialized RJ3) = true ∧ mm_wk (.fieldLink RJ0 1053 "jdk/internal/util/Preconditions" "SIOOBE_FORMATTER" "Ljava/util/function/BiFunction;") = true := by decide +kernel
set_option maxRecDepth 100000 in
theorem mm_jc4 : mm_wk (.code yJ0_checkIndex_df160 cJ0_checkIndex_df160 2 none) = true ∧ mm_wk (.methodLink RJ1 9 yJ0_checkIndex_df160) = true ∧ mm_wk (.static yJ0_checkIndex_df160) = true := by decide +kernel
set_option maxRecDepth 100000 in
theorem mm_jc5 : mm_wk (.code yJ1_charAt_3b067 cJ1_charAt_3b067 2 (some .char)) = true ∧ mm_wk (.methodLink RJ0 495 yJ1_charAt_3b067) = true ∧ mm_wk (.static yJ1_charAt_3b067) = true ∧ mm_wk (.initialized RJ1) = true := by decide +kernel
set_option maxRecDepth 100000 in
theorem mm_jc6 : mm_wk (.code yJ0_length_8abf5 cJ0_length_8abf5 1 (some .int)) = true ∧ mm_wk (.instanceMethod yJ0_length_8abf5) = true ∧ mm_wk (.selects RJ0 yJ0_length_8abf5 yJ0_length_8abf5) = true := by decide +kernel
set_option maxRecDepth 100000 in
theorem mm_jc7 : mm_wk (.code yJ0_charAt_5068e cJ0_charAt_5068e 2 (some .char)) = true ∧ mm_wk (.instanceMethod yJ0_charAt_5068e) = true ∧ mm_wk (.selects RJ0 yJ0_charAt_5068e yJ0_charAt_5068e) = true := by decide +kernel
set_option maxHeartbeats 4000000 in
set_option maxRecDepth 100000 in
theorem mm_coder (l : Launch) (ad : Nat → Nat) (A : Nat → Prop) (i : Nat) (hi : i < 8) : Met l yJ0_coder_7d493 (mm_jw yJ0_coder_7d493 cJ0_coder_7d493 1 (some .byte)) (mm_jR 0 0) (mm_Pj [.ref (ad (1100 + i))] ad A) (QcRead 0) 0 0 (fun _ => False) := by
  refine Met.ofW (cc := cJ0_coder_7d493) (maxL := 1) (ret := some .byte) (by decide) rfl ?_
  intro p e s m args below meth c s₁ B hml hv
  obtain ⟨rfl, hK⟩ := hv
  have hx := B.exec
  have hb := B.bytes
  have hr := B.returns
  have hts0 := atoms_spec (ws := mm_jw yJ0_coder_7d493 cJ0_coder_7d493 1 (some .byte)) B.pre
  have hts : ∀ w ∈ mm_MW, w.before _ s = true := fun w hw => hts0 w (List.mem_cons_of_mem _ hw)
  have hown : s.vm.findClass RJ0 = some m.cls := findClass_of_methodNamed B.named
  have hlocks := B.notSynchronized
  have hS : va_S A s.heap s.heap [] := va_S.rf
  have hl := lv_entry ([.ref (ad (1100 + i))]) (n := 1) (Nat.le_of_ble_eq_true rfl)
  rw [lg_entry_eq]
  generalize (lg_sl ([.ref (ad (1100 + i))]) ++ List.replicate (1 - (lg_sl ([.ref (ad (1100 + i))])).length) Slot.unset).toArray = ls at hl ⊢
  have hl : lv_has ls 1 [(0, .ref (ad (1100 + i)))] := hl
  refine va_gets hx hb hK.2.2.1 hS hown (hts _ (mm_wk_in mm_jc1.2.2.2.2.2.1)) (fun _ z => z) dJ0_coder_7d493_0 ?_
  refine lv_if_eq (tgt := 13) hx hb dJ0_coder_7d493_3 (by decide) (fun z => absurd z (by decide)) (fun _ => ?_)
  refine lv_aload_n hx hb dJ0_coder_7d493_6 rfl (lv_at hl 0 rfl) ?_
  refine vk_getf hx hb (hK.1.1 i hi).2.1 hS hown (hts _ (mm_wk_in mm_jc1.2.2.2.2.2.2.1)) (fun _ z => z) dJ0_coder_7d493_7 ?_
  refine lv_goto (tgt := 14) hx hb dJ0_coder_7d493_10 (by decide) ?_
  exact W.zret hx hb hr rfl (fun t ht hW => ⟨rfl, ht⟩) (fun q h => by cases h) dJ0_coder_7d493_14
set_option maxHeartbeats 4000000 in
set_option maxRecDepth 100000 in
theorem mm_latin (l : Launch) (ad : Nat → Nat) (A : Nat → Prop) (i : Nat) (hi : i < 8) : Met l yJ0_isLatin1_aae02 (mm_jw yJ0_isLatin1_aae02 cJ0_isLatin1_aae02 1 (some .boolean)) (mm_jR 0 0) (mm_Pj [.ref (ad (1100 + i))] ad A) (QcRead 1) 0 0 (fun _ => False) := by
  refine Met.ofW (cc := cJ0_isLatin1_aae02) (maxL := 1) (ret := some .boolean) (by decide) rfl ?_
  intro p e s m args below meth c s₁ B hml hv
  obtain ⟨rfl, hK⟩ := hv
  have hx := B.exec
  have hb := B.bytes
  have hr := B.returns
  have hts0 := atoms_spec (ws := mm_jw yJ0_isLatin1_aae02 cJ0_isLatin1_aae02 1 (some .boolean)) B.pre
  have hts : ∀ w ∈ mm_MW, w.before _ s = true := fun w hw => hts0 w (List.mem_cons_of_mem _ hw)
  have hown : s.vm.findClass RJ0 = some m.cls := findClass_of_methodNamed B.named
  have hlocks := B.notSynchronized
  have hS : va_S A s.heap s.heap [] := va_S.rf
  have hl := lv_entry ([.ref (ad (1100 + i))]) (n := 1) (Nat.le_of_ble_eq_true rfl)
  rw [lg_entry_eq]
  generalize (lg_sl ([.ref (ad (1100 + i))]) ++ List.replicate (1 - (lg_sl ([.ref (ad (1100 + i))])).length) Slot.unset).toArray = ls at hl ⊢
  have hl : lv_has ls 1 [(0, .ref (ad (1100 + i)))] := hl
  refine va_gets hx hb hK.2.2.1 hS hown (hts _ (mm_wk_in mm_jc1.2.2.2.2.2.1)) (fun _ z => z) dJ0_isLatin1_aae02_0 ?_
  refine lv_if_eq (tgt := 17) hx hb dJ0_isLatin1_aae02_3 (by decide) (fun z => absurd z (by decide)) (fun _ => ?_)
  refine lv_aload_n hx hb dJ0_isLatin1_aae02_6 rfl (lv_at hl 0 rfl) ?_
  refine vk_getf hx hb (hK.1.1 i hi).2.1 hS hown (hts _ (mm_wk_in mm_jc1.2.2.2.2.2.2.1)) (fun _ z => z) dJ0_isLatin1_aae02_7 ?_
  refine lv_if_ne (tgt := 17) hx hb dJ0_isLatin1_aae02_10 (by decide) (fun z => absurd rfl z) (fun _ => ?_)
  refine lv_iconst (v := 1) hx hb dJ0_isLatin1_aae02_13 (by decide) ?_
  refine lv_goto (tgt := 18) hx hb dJ0_isLatin1_aae02_14 (by decide) ?_
  exact W.zret hx hb hr rfl (fun t ht hW => ⟨rfl, ht⟩) (fun q h => by cases h) dJ0_isLatin1_aae02_18
set_option maxHeartbeats 4000000 in
set_option maxRecDepth 100000 in
theorem mm_prec (l : Launch) (ad : Nat → Nat) (A : Nat → Prop) (x n : Int32) (o : Option Nat) (h0 : ¬ x < 0) (h1 : x < n) : Met l yJ3_checkIndex_8e157 (mm_jw yJ3_checkIndex_8e157 cJ3_checkIndex_8e157 3 (some .int)) (mm_jR 0 0) (mm_Pj [.int x, .int n, va_rf o] ad A) (QcRead x) 0 0 (fun _ => False) := by
  refine Met.ofW (cc := cJ3_checkIndex_8e157) (maxL := 3) (ret := some .int) (by decide) rfl ?_
  intro p e s m args below meth c s₁ B hml hv
  obtain ⟨rfl, hK⟩ := hv
  have hx := B.exec
  have hb := B.bytes
  have hr := B.returns
  have hlocks := B.notSynchronized
  have hl := lv_entry ([.int x, .int n, va_rf o]) (n := 3) (by cases o <;> exact Nat.le_of_ble_eq_true rfl)
  rw [lg_entry_eq]
  generalize (lg_sl ([.int x, .int n, va_rf o]) ++ List.replicate (3 - (lg_sl ([.int x, .int n, va_rf o])).length) Slot.unset).toArray = ls at hl ⊢
  have hl : lv_has ls 3 [(0, .int x), (1, .int n), (2, va_rf o)] := by cases o <;> exact hl
  refine lv_iload_n hx hb dJ3_checkIndex_8e157_0 rfl (lv_at hl 0 rfl) ?_
  refine lv_if_lt (tgt := 9) hx hb dJ3_checkIndex_8e157_1 (by decide) (fun z => absurd z h0) (fun _ => ?_)
  refine lv_iload_n hx hb dJ3_checkIndex_8e157_4 rfl (lv_at hl 0 rfl) ?_
  refine lv_iload_n hx hb dJ3_checkIndex_8e157_5 rfl (lv_at hl 1 rfl) ?_
  refine lv_icmp_lt (tgt := 16) hx hb dJ3_checkIndex_8e157_6 (by decide) (fun _ => ?_) (fun z => absurd h1 z)
  refine lv_iload_n hx hb dJ3_checkIndex_8e157_16 rfl (lv_at hl 0 rfl) ?_
  exact W.iret hx hb hr (fun t ht hW => ⟨rfl, ht⟩) (fun q h => by cases h) dJ3_checkIndex_8e157_17
set_option maxHeartbeats 4000000 in
set_option maxRecDepth 100000 in
theorem mm_check (l : Launch) (ad : Nat → Nat) (A : Nat → Prop) (x n : Int32) (h0 : ¬ x < 0) (h1 : x < n) : Met l yJ0_checkIndex_df160 (mm_jw yJ0_checkIndex_df160 cJ0_checkIndex_df160 2 none) (mm_jR 1 40) (mm_Pj [.int x, .int n] ad A) (va_Sv (fun _ => True)) 0 0 (fun _ => False) := by
  refine Met.ofW (cc := cJ0_checkIndex_df160) (maxL := 2) (ret := none) (by decide) rfl ?_
  intro p e s m args below meth c s₁ B hml hv
  obtain ⟨rfl, hK⟩ := hv
  have hx := B.exec
  have hb := B.bytes
  have hr := B.returns
  have hts0 := atoms_spec (ws := mm_jw yJ0_checkIndex_df160 cJ0_checkIndex_df160 2 none) B.pre
  have hts : ∀ w ∈ mm_MW, w.before _ s = true := fun w hw => hts0 w (List.mem_cons_of_mem _ hw)
  have hown : s.vm.findClass RJ0 = some m.cls := findClass_of_methodNamed B.named
  have hlocks := B.notSynchronized
  have hS : va_S A s.heap s.heap [] := va_S.rf
  have hl := lv_entry ([.int x, .int n]) (n := 2) (Nat.le_of_ble_eq_true rfl)
  rw [lg_entry_eq]
  generalize (lg_sl ([.int x, .int n]) ++ List.replicate (2 - (lg_sl ([.int x, .int n])).length) Slot.unset).toArray = ls at hl ⊢
  have hl : lv_has ls 2 [(0, .int x), (1, .int n)] := hl
  refine lv_iload_n hx hb dJ0_checkIndex_df160_0 rfl (lv_at hl 0 rfl) ?_
  refine lv_iload_n hx hb dJ0_checkIndex_df160_1 rfl (lv_at hl 1 rfl) ?_
  obtain ⟨o, hZ⟩ : ∃ o : Option Nat, va_Z "jdk/internal/util/Preconditions" "SIOOBE_FORMATTER" "Ljava/util/function/BiFunction;" (va_rf o) A s s.heap := by
    rcases hK.2.2.2 with h | ⟨t, h⟩
    · exact ⟨none, h⟩
    · exact ⟨some t, h⟩
  refine va_gets hx hb hZ hS hown (hts _ (mm_wk_in mm_jc3.2.2.2.2)) (fun _ z => z) dJ0_checkIndex_df160_2 ?_
  refine W.callR (W.runS (own := RJ0) (As := [.int x, .int n, va_rf o]) (rest := []) ⟨hx, hb, hml, hown, hts⟩ (mm_prec l ad A x n o h0 h1)
    (va_cwS 3 hts (mm_jS (mm_wk_in mm_jc3.1) mm_jc3.2.1 mm_jc3.2.2.1 mm_jc3.2.2.2.1) rfl rfl rfl (by decide +kernel) ⟨Nat.le_of_ble_eq_true rfl, Nat.le_of_ble_eq_true rfl⟩) ⟨mm_Pj.blind, fun U hU hW => ⟨rfl, by show mm_Ks ad A U U.heap; rw [hU]; exact hK.call hW (fun _ _ _ => rfl)⟩⟩ rfl rfl hl.1 rfl (lv_room (Nat.le_of_ble_eq_true rfl)) dJ0_checkIndex_df160_5 ⟨Nat.zero_le _, Nat.zero_le _⟩) ?_
  refine lv_pop hx hb dJ0_checkIndex_df160_8 rfl ?_
  exact W.vret hx hb hr (fun t ht hW => ⟨rfl, trivial, ht⟩) (fun q h => by cases h) dJ0_checkIndex_df160_9
def mm_sb (i : Nat) (x : Int32) : Int32 := (((mm_ss.getD i []).getD x.toNatClampNeg 0 &&& 255).toUInt32 % 65536).toInt32
theorem mm_sb_ok : ∀ i, i < 8 → mm_syl.getD i 0 = (mm_sy i).length ∧ ∀ j, j < (mm_sy i).length → ((((mm_ss.getD i []).getD j 0 &&& 255).toUInt32 % 65536).toInt32 = (mm_sy i).getD j 0 ∧ narrow .char (.int ((mm_sy i).getD j 0)) = .int ((mm_sy i).getD j 0)) := by decide +kernel
set_option maxHeartbeats 4000000 in
set_option maxRecDepth 100000 in
theorem mm_l1ch (l : Launch) (ad : Nat → Nat) (A : Nat → Prop) (i : Nat) (hi : i < 8) (x : Int32) (hin : vp_in x (mm_syl.getD i 0)) : Met l yJ1_charAt_3b067 (mm_jw yJ1_charAt_3b067 cJ1_charAt_3b067 2 (some .char)) (mm_jR 2 80) (mm_Pj [.ref (ad (1200 + i)), .int x] ad A) (QcRead ((mm_sy i).getD x.toNatClampNeg 0)) 0 0 (fun _ => False) := by
  have hlt : x.toNatClampNeg < mm_syl.getD i 0 := Nat.not_le.mp fun q => hin (Or.inr q)
  obtain ⟨hs1, hs2⟩ := mm_sb_ok i hi
  obtain ⟨hs3, hs4⟩ := hs2 _ (hs1 ▸ hlt)
  have hn : mm_syl.getD i 0 < 2 ^ 31 := by
    have : ∀ i, i < 8 → mm_syl.getD i 0 < 2 ^ 31 := by decide
    exact this i hi
  have h0 : ¬ x < 0 := fun z => hin (Or.inl z)
  have h1 : x < Int32.ofNat (mm_syl.getD i 0) := by
    obtain ⟨j, hj, rfl⟩ := vp_in_of hin hn
    exact nI_lt hj hn
  refine Met.ofW (cc := cJ1_charAt_3b067) (maxL := 2) (ret := some .char) (by decide) rfl ?_
  intro p e s m args below meth c s₁ B hml hv
  obtain ⟨rfl, hK⟩ := hv
  have hx := B.exec
  have hb := B.bytes
  have hr := B.returns
  have hts0 := atoms_spec (ws := mm_jw yJ1_charAt_3b067 cJ1_charAt_3b067 2 (some .char)) B.pre
  have hts : ∀ w ∈ mm_MW, w.before _ s = true := fun w hw => hts0 w (List.mem_cons_of_mem _ hw)
  have hown : s.vm.findClass RJ1 = some m.cls := findClass_of_methodNamed B.named
  have hlocks := B.notSynchronized
  have hS : va_S A s.heap s.heap [] := va_S.rf
  have hT := (hK.1.1 i hi).2.2.2
  have hl := lv_entry ([.ref (ad (1200 + i)), .int x]) (n := 2) (Nat.le_of_ble_eq_true rfl)
  rw [lg_entry_eq]
  generalize (lg_sl ([.ref (ad (1200 + i)), .int x]) ++ List.replicate (2 - (lg_sl ([.ref (ad (1200 + i)), .int x])).length) Slot.unset).toArray = ls at hl ⊢
  have hl : lv_has ls 2 [(0, .ref (ad (1200 + i))), (1, .int x)] := hl
  refine lv_iload_n hx hb dJ1_charAt_3b067_0 rfl (lv_at hl 1 rfl) ?_
  refine lv_aload_n hx hb dJ1_charAt_3b067_1 rfl (lv_at hl 0 rfl) ?_
  refine va_tlen hx hb hT hS rfl dJ1_charAt_3b067_2 ?_
  refine va_csv (W.runS (own := RJ1) (As := [.int x, .int (Int32.ofNat (mm_syl.getD i 0))]) (rest := []) ⟨hx, hb, hml, hown, hts⟩ (mm_check l ad A x _ h0 h1)
    (va_cwS 2 hts (mm_jS (mm_wk_in mm_jc4.1) mm_jc4.2.1 mm_jc4.2.2 mm_jc1.2.2.2.2.1) rfl rfl rfl (by decide +kernel) ⟨Nat.le_of_ble_eq_true rfl, Nat.le_of_ble_eq_true rfl⟩) ⟨mm_Pj.blind, fun U hU hW => ⟨rfl, by show mm_Ks ad A U U.heap; rw [hU]; exact hK.call hW (fun _ _ _ => rfl)⟩⟩ rfl rfl hl.1 rfl (lv_room (Nat.le_of_ble_eq_true rfl)) dJ1_charAt_3b067_3 ⟨Nat.zero_le _, Nat.zero_le _⟩) (fun _ => ?_)
  refine lv_aload_n hx hb dJ1_charAt_3b067_6 rfl (lv_at hl 0 rfl) ?_
  refine lv_iload_n hx hb dJ1_charAt_3b067_7 rfl (lv_at hl 1 rfl) ?_
  refine va_tb hx hb hT hS hin rfl dJ1_charAt_3b067_8 ?_
  refine lv_sipush (v := 255) hx hb dJ1_charAt_3b067_9 (by decide) ?_
  refine lv_iand hx hb dJ1_charAt_3b067_12 ?_
  refine lv_i2c hx hb dJ1_charAt_3b067_13 hs3 ?_
  exact W.zret hx hb hr hs4 (fun t ht hW => ⟨rfl, ht⟩) (fun q h => by cases h) dJ1_charAt_3b067_14
set_option maxHeartbeats 4000000 in
set_option maxRecDepth 100000 in
theorem mm_char (l : Launch) (ad : Nat → Nat) (A : Nat → Prop) (i : Nat) (hi : i < 8) (x : Int32) (hin : vp_in x (mm_syl.getD i 0)) : Met l yJ0_charAt_5068e (mm_jw yJ0_charAt_5068e cJ0_charAt_5068e 2 (some .char)) (mm_jR 3 120) (mm_Pj [.ref (ad (1100 + i)), .int x] ad A) (QcRead ((mm_sy i).getD x.toNatClampNeg 0)) 0 0 (fun _ => False) := by
  have hlt : x.toNatClampNeg < mm_syl.getD i 0 := Nat.not_le.mp fun q => hin (Or.inr q)
  obtain ⟨hs1, hs2⟩ := mm_sb_ok i hi
  obtain ⟨hs3, hs4⟩ := hs2 _ (hs1 ▸ hlt)
  refine Met.ofW (cc := cJ0_charAt_5068e) (maxL := 2) (ret := some .char) (by decide) rfl ?_
  intro p e s m args below meth c s₁ B hml hv
  obtain ⟨rfl, hK⟩ := hv
  have hx := B.exec
  have hb := B.bytes
  have hr := B.returns
  have hts0 := atoms_spec (ws := mm_jw yJ0_charAt_5068e cJ0_charAt_5068e 2 (some .char)) B.pre
  have hts : ∀ w ∈ mm_MW, w.before _ s = true := fun w hw => hts0 w (List.mem_cons_of_mem _ hw)
  have hown : s.vm.findClass RJ0 = some m.cls := findClass_of_methodNamed B.named
  have hlocks := B.notSynchronized
  have hS : va_S A s.heap s.heap [] := va_S.rf
  have hl := lv_entry ([.ref (ad (1100 + i)), .int x]) (n := 2) (Nat.le_of_ble_eq_true rfl)
  rw [lg_entry_eq]
  generalize (lg_sl ([.ref (ad (1100 + i)), .int x]) ++ List.replicate (2 - (lg_sl ([.ref (ad (1100 + i)), .int x])).length) Slot.unset).toArray = ls at hl ⊢
  have hl : lv_has ls 2 [(0, .ref (ad (1100 + i))), (1, .int x)] := hl
  refine lv_aload_n hx hb dJ0_charAt_5068e_0 rfl (lv_at hl 0 rfl) ?_
  refine W.callR (W.runV (own := RJ0) (C := RJ0) (b := ad (1100 + i)) (As := []) (rest := []) ⟨hx, hb, hml, hown, hts⟩ (mm_latin l ad A i hi)
    (cwV 0 hts (mm_jV (mm_wk_in mm_jc2.1) mm_jc2.2.1 mm_jc2.2.2.1 mm_jc2.2.2.2 mm_jc1.2.2.2.2.1) rfl rfl rfl (by decide +kernel) ⟨Nat.le_of_ble_eq_true rfl, Nat.le_of_ble_eq_true rfl⟩) ⟨mm_Pj.blind, vk_recv (i := i) (adK := fun i => ad (1100 + i)) hK.1 hi hS, fun U hU hW => ⟨rfl, by show mm_Ks ad A U U.heap; rw [hU]; exact hK.call hW (fun _ _ _ => rfl)⟩⟩ rfl rfl hl.1 rfl (lv_room (Nat.le_of_ble_eq_true rfl)) dJ0_charAt_5068e_1 ⟨Nat.zero_le _, Nat.zero_le _⟩) ?_
  refine lv_if_eq (tgt := 16) hx hb dJ0_charAt_5068e_4 (by show ((4 : Nat) : Int) + 12 = ((16 : Nat) : Int); decide) (fun z => absurd z (by decide)) (fun _ => ?_)
  refine lv_aload_n hx hb dJ0_charAt_5068e_7 rfl (lv_at hl 0 rfl) ?_
  refine vk_getf hx hb (hK.1.1 i hi).2.2.1 hS hown (hts _ (mm_wk_in mm_jc1.2.2.2.2.2.2.2)) (fun _ z => z) dJ0_charAt_5068e_8 ?_
  refine lv_iload_n hx hb dJ0_charAt_5068e_11 rfl (lv_at hl 1 rfl) ?_
  refine W.callR (W.runS (own := RJ0) (As := [.ref (ad (1200 + i)), .int x]) (rest := []) ⟨hx, hb, hml, hown, hts⟩ (mm_l1ch l ad A i hi x hin)
    (va_cwS 2 hts (mm_jS (mm_wk_in mm_jc5.1) mm_jc5.2.1 mm_jc5.2.2.1 mm_jc5.2.2.2) rfl rfl rfl (by decide +kernel) ⟨Nat.le_of_ble_eq_true rfl, Nat.le_of_ble_eq_true rfl⟩) ⟨mm_Pj.blind, fun U hU hW => ⟨rfl, by show mm_Ks ad A U U.heap; rw [hU]; exact hK.call hW (fun _ _ _ => rfl)⟩⟩ rfl rfl hl.1 rfl (lv_room (Nat.le_of_ble_eq_true rfl)) dJ0_charAt_5068e_12 ⟨Nat.zero_le _, Nat.zero_le _⟩) ?_
  exact W.zret hx hb hr hs4 (fun t ht hW => ⟨rfl, ht⟩) (fun q h => by cases h) dJ0_charAt_5068e_15
theorem mm_shr0 : ∀ i, i < 8 → (Int32.ofNat (mm_syl.getD i 0)) >>> ((0 : Int32) &&& 31) = Int32.ofNat (mm_sy i).length := by decide +kernel
set_option maxHeartbeats 4000000 in
set_option maxRecDepth 100000 in
theorem mm_leng (l : Launch) (ad : Nat → Nat) (A : Nat → Prop) (i : Nat) (hi : i < 8) : Met l yJ0_length_8abf5 (mm_jw yJ0_length_8abf5 cJ0_length_8abf5 1 (some .int)) (mm_jR 1 40) (mm_Pj [.ref (ad (1100 + i))] ad A) (QcRead (Int32.ofNat (mm_sy i).length)) 0 0 (fun _ => False) := by
  refine Met.ofW (cc := cJ0_length_8abf5) (maxL := 1) (ret := some .int) (by decide) rfl ?_
  intro p e s m args below meth c s₁ B hml hv
  obtain ⟨rfl, hK⟩ := hv
  have hx := B.exec
  have hb := B.bytes
  have hr := B.returns
  have hts0 := atoms_spec (ws := mm_jw yJ0_length_8abf5 cJ0_length_8abf5 1 (some .int)) B.pre
  have hts : ∀ w ∈ mm_MW, w.before _ s = true := fun w hw => hts0 w (List.mem_cons_of_mem _ hw)
  have hown : s.vm.findClass RJ0 = some m.cls := findClass_of_methodNamed B.named
  have hlocks := B.notSynchronized
  have hS : va_S A s.heap s.heap [] := va_S.rf
  have hl := lv_entry ([.ref (ad (1100 + i))]) (n := 1) (Nat.le_of_ble_eq_true rfl)
  rw [lg_entry_eq]
  generalize (lg_sl ([.ref (ad (1100 + i))]) ++ List.replicate (1 - (lg_sl ([.ref (ad (1100 + i))])).length) Slot.unset).toArray = ls at hl ⊢
  have hl : lv_has ls 1 [(0, .ref (ad (1100 + i)))] := hl
  refine lv_aload_n hx hb dJ0_length_8abf5_0 rfl (lv_at hl 0 rfl) ?_
  refine vk_getf hx hb (hK.1.1 i hi).2.2.1 hS hown (hts _ (mm_wk_in mm_jc1.2.2.2.2.2.2.2)) (fun _ z => z) dJ0_length_8abf5_1 ?_
  refine va_tlen hx hb (hK.1.1 i hi).2.2.2 hS rfl dJ0_length_8abf5_4 ?_
  refine lv_aload_n hx hb dJ0_length_8abf5_5 rfl (lv_at hl 0 rfl) ?_
  refine W.callR (W.runV (own := RJ0) (C := RJ0) (b := ad (1100 + i)) (As := []) (rest := [.int (Int32.ofNat (mm_syl.getD i 0))]) ⟨hx, hb, hml, hown, hts⟩ (mm_coder l ad A i hi)
    (cwV 0 hts (mm_jV (mm_wk_in mm_jc1.1) mm_jc1.2.1 mm_jc1.2.2.1 mm_jc1.2.2.2.1 mm_jc1.2.2.2.2.1) rfl rfl rfl (by decide +kernel) ⟨Nat.le_of_ble_eq_true rfl, Nat.le_of_ble_eq_true rfl⟩) ⟨mm_Pj.blind, vk_recv (i := i) (adK := fun i => ad (1100 + i)) hK.1 hi hS, fun U hU hW => ⟨rfl, by show mm_Ks ad A U U.heap; rw [hU]; exact hK.call hW (fun _ _ _ => rfl)⟩⟩ rfl rfl hl.1 rfl (lv_room (Nat.le_of_ble_eq_true rfl)) dJ0_length_8abf5_6 ⟨Nat.zero_le _, Nat.zero_le _⟩) ?_
  refine lv_ishr hx hb dJ0_length_8abf5_9 ?_
  rw [mm_shr0 i hi]
  exact W.iret hx hb hr (fun t ht hW => ⟨rfl, ht⟩) (fun q h => by cases h) dJ0_length_8abf5_10
