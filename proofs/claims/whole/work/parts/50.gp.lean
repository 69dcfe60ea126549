/-! WALKS WITH A DESCRIBED OUTCOME: gP walks, cP calls; sc: two memories alike but for scratch; pU: an answer and a memory but for scratch -/
def gP (cs : mm_Cs) (d own : Nat) (ini : Bool) (rt : Option FieldType) (b : ByteArray) (pc : Nat) (ls : mm_Ls) (st : List Value) (M : mm_M) (Q : Option Value → mm_M → Prop) : Prop := ∃ r M', mm_Go cs d own ini rt b pc ls st M r M' ∧ Q r M'
def cP (d mi : Nat) (args : List Value) (M : mm_M) (Q : Option Value → mm_M → Prop) : Prop := ∃ r M', mm_Call d mi args M r M' ∧ Q r M'
theorem gP.lift {cs cs2 : mm_Cs} {d d2 own own2 : Nat} {ini ini2 : Bool} {rt rt2 : Option FieldType} {b b2 : ByteArray} {pc pc2 : Nat} {ls ls2 : mm_Ls} {st st2 : List Value} {M M2 : mm_M} {Q : Option Value → mm_M → Prop}
    (h : ∀ r M', mm_Go cs2 d2 own2 ini2 rt2 b2 pc2 ls2 st2 M2 r M' → mm_Go cs d own ini rt b pc ls st M r M') (k : gP cs2 d2 own2 ini2 rt2 b2 pc2 ls2 st2 M2 Q) : gP cs d own ini rt b pc ls st M Q := by
  obtain ⟨r, M', k1, k2⟩ := k
  exact ⟨r, M', h r M' k1, k2⟩
theorem gP.of_go {cs : mm_Cs} {d own : Nat} {ini : Bool} {rt : Option FieldType} {b : ByteArray} {pc : Nat} {ls : mm_Ls} {st : List Value} {M : mm_M} {r : Option Value} {M' : mm_M} {Q : Option Value → mm_M → Prop} (h : mm_Go cs d own ini rt b pc ls st M r M') (hq : Q r M') : gP cs d own ini rt b pc ls st M Q := ⟨r, M', h, hq⟩
theorem gP.mono {cs : mm_Cs} {d own : Nat} {ini : Bool} {rt : Option FieldType} {b : ByteArray} {pc : Nat} {ls : mm_Ls} {st : List Value} {M : mm_M} {Q Q' : Option Value → mm_M → Prop} (h : gP cs d own ini rt b pc ls st M Q) (hq : ∀ r M', Q r M' → Q' r M') : gP cs d own ini rt b pc ls st M Q' := by
  obtain ⟨r, M', k1, k2⟩ := h
  exact ⟨r, M', k1, hq r M' k2⟩
theorem cP.mono {d mi : Nat} {args : List Value} {M : mm_M} {Q Q' : Option Value → mm_M → Prop} (h : cP d mi args M Q) (hq : ∀ r M', Q r M' → Q' r M') : cP d mi args M Q' := by
  obtain ⟨r, M', k1, k2⟩ := h
  exact ⟨r, M', k1, hq r M' k2⟩
theorem cP.of_call {d mi : Nat} {args : List Value} {M : mm_M} {r : Option Value} {M' : mm_M} {Q : Option Value → mm_M → Prop} (h : mm_Call d mi args M r M') (hq : Q r M') : cP d mi args M Q := ⟨r, M', h, hq⟩
theorem cP.of_gP {d mi : Nat} {e : mm_Me} {args : List Value} {M : mm_M} {Q : Option Value → mm_M → Prop} (he : mm_me mi = some e) (ha : (mm_ar args).length ≤ e.2.2.2.1 ∧ args.length = e.2.2.2.2.2.2.1)
    (h : gP mm_cs0 d e.2.1 e.2.2.2.2.2.1 e.2.2.2.2.1 e.2.2.1 0 (mm_en e.2.2.2.1 args) [] M Q) : cP (d + 1) mi args M Q := by
  obtain ⟨r, M', k1, k2⟩ := h
  exact ⟨r, M', mm_Call.of_go he ha k1, k2⟩
abbrev pI : Type := Nat → Nat → Int32
abbrev pL : Type := Nat → Nat → Int64
/-- what no later call looks at before it is written -/
def scr (k j : Nat) : Bool := (Nat.ble 21 k && Nat.ble k 40) || Nat.beq k 62 || Nat.beq k 63 || (Nat.ble 65 k && Nat.ble k 70) || (Nat.beq k 71 && Nat.ble 2 j) || Nat.beq k 73 || Nat.beq k 74 || (Nat.ble 92 k && Nat.ble k 107) || (Nat.beq k 108 && Nat.ble 10 j && !(Nat.beq j 57) && !(Nat.beq j 58)) || Nat.beq k 126 || Nat.beq k 127 || (Nat.ble 129 k && Nat.ble k 136)
def sc (I J : pI) : Prop := ∀ k j, scr k j = false → J k j = I k j
theorem sc.rf (I : pI) : sc I I := fun _ _ _ => rfl
theorem sc.tr {I J K : pI} (h : sc I J) (h2 : sc J K) : sc I K := fun k j z => (h2 k j z).trans (h k j z)
theorem sc.sy {I J : pI} (h : sc I J) : sc J I := fun k j z => (h k j z).symm
theorem sc.u {I J : pI} (h : sc I J) {k j : Nat} {v : Int32} (z : scr k j = true) : sc I (mm_u J k j v) := by
  intro a b hz
  unfold mm_u
  split
  · rename_i h1
    split
    · rename_i h2
      rw [h1, h2, z] at hz
      cases hz
    · exact h a b hz
  · exact h a b hz
theorem sc.ro {I J : pI} (h : sc I J) {k : Nat} {ρ : Nat → Int32} (z : ∀ j, scr k j = false → ρ j = J k j) : sc I (sr J k ρ) := by
  intro a b hz
  unfold sr
  split
  · rename_i h1
    rw [h1] at hz
    rw [z b hz, h1]
    exact h k b hz
  · exact h a b hz
theorem sc.of {I J J' : pI} (h : sc I J) (z : ∀ k j, scr k j = false → J' k j = J k j) : sc I J' := fun k j hz => (z k j hz).trans (h k j hz)
/-- the same step on both sides -/
theorem sc.uu {I J : pI} (h : sc I J) {k j : Nat} {v : Int32} : sc (mm_u I k j v) (mm_u J k j v) := by
  intro a b hz
  unfold mm_u
  split
  · split
    · rfl
    · exact h a b hz
  · exact h a b hz
def pX (v : Option Value) (L : pL) (X : pI → Prop) : Option Value → mm_M → Prop := fun r M => r = v ∧ ∃ J, M = (mm_sh, mm_R, J, L) ∧ X J
theorem pX.mk {v : Option Value} {J : pI} {L : pL} {X : pI → Prop} {r : Option Value} (h : r = v) (hs : X J) : pX v L X r (mm_sh, mm_R, J, L) := ⟨h, J, rfl, hs⟩
theorem cP.of_x {d mi : Nat} {args : List Value} {M : mm_M} {r v : Option Value} {J : pI} {L : pL} {X : pI → Prop} (h : mm_Call d mi args M r (mm_sh, mm_R, J, L)) (hv : r = v) (hs : X J) : cP d mi args M (pX v L X) := ⟨r, _, h, hv, J, rfl, hs⟩
section MMGP
variable {cs : mm_Cs} {d own : Nat} {ini : Bool} {rt : Option FieldType} {b : ByteArray} {pc : Nat} {ls ls' : mm_Ls} {st : List Value} {M : mm_M} {r : Option Value} {M' : mm_M} {I : Nat → Nat → Int32} {L : Nat → Nat → Int64} {k idx c j : Nat} {x y : Int32} {z : Int64} {a : Nat} {Q : Option Value → mm_M → Prop}
theorem gp_pu {i : Instr} {st' : List Value} (hd : decode b pc = .ok (i, mm_ln i)) (h : mm_pu i st = some st') (k : gP cs d own ini rt b (pc + mm_ln i) ls st' M Q) : gP cs d own ini rt b pc ls st M Q := gP.lift (fun _ _ kk0 => go_pu hd h kk0) k
theorem gp_lo {i : Instr} {q : mm_Ls × List Value} (hd : decode b pc = .ok (i, mm_ln i)) (h : mm_lo i ls st = some q) (k : gP cs d own ini rt b (pc + mm_ln i) q.1 q.2 M Q) : gP cs d own ini rt b pc ls st M Q := gP.lift (fun _ _ kk0 => go_lo hd h kk0) k
theorem gp_br {i : Instr} {n : Nat} {q : Nat × List Value} (hd : decode b pc = .ok (i, n)) (hn : n = mm_ln i ∨ mm_sw i = true) (h : mm_br pc i st = some q) (k : gP cs d own ini rt b q.1 ls q.2 M Q) : gP cs d own ini rt b pc ls st M Q := gP.lift (fun _ _ kk0 => go_br hd hn h kk0) k
theorem gp_iload (hd : decode b pc = .ok (.iload k, 2)) (hl : ls[k]? = some (some (.int x))) (kk : gP cs d own ini rt b (pc + 2) ls (.int x :: st) M Q) : gP cs d own ini rt b pc ls st M Q := gP.lift (fun _ _ kk0 => go_iload hd hl kk0) kk
theorem gp_iload_n {n : Fin 4} (hd : decode b pc = .ok (.iload_n n, 1)) (hl : ls[(n : Nat)]? = some (some (.int x))) (kk : gP cs d own ini rt b (pc + 1) ls (.int x :: st) M Q) : gP cs d own ini rt b pc ls st M Q := gP.lift (fun _ _ kk0 => go_iload_n hd hl kk0) kk
theorem gp_lload (hd : decode b pc = .ok (.lload k, 2)) (hl : ls[k]? = some (some (.long z))) (kk : gP cs d own ini rt b (pc + 2) ls (.long z :: st) M Q) : gP cs d own ini rt b pc ls st M Q := gP.lift (fun _ _ kk0 => go_lload hd hl kk0) kk
theorem gp_lload_n {n : Fin 4} (hd : decode b pc = .ok (.lload_n n, 1)) (hl : ls[(n : Nat)]? = some (some (.long z))) (kk : gP cs d own ini rt b (pc + 1) ls (.long z :: st) M Q) : gP cs d own ini rt b pc ls st M Q := gP.lift (fun _ _ kk0 => go_lload_n hd hl kk0) kk
theorem gp_aload (hd : decode b pc = .ok (.aload k, 2)) (hl : ls[k]? = some (some (.ref a))) (kk : gP cs d own ini rt b (pc + 2) ls (.ref a :: st) M Q) : gP cs d own ini rt b pc ls st M Q := gP.lift (fun _ _ kk0 => go_aload hd hl kk0) kk
theorem gp_aload_n {n : Fin 4} (hd : decode b pc = .ok (.aload_n n, 1)) (hl : ls[(n : Nat)]? = some (some (.ref a))) (kk : gP cs d own ini rt b (pc + 1) ls (.ref a :: st) M Q) : gP cs d own ini rt b pc ls st M Q := gP.lift (fun _ _ kk0 => go_aload_n hd hl kk0) kk
theorem gp_istore (hd : decode b pc = .ok (.istore k, 2)) (hl : mm_so ls k (.int x) = ls') (hk : k < ls.length) (kk : gP cs d own ini rt b (pc + 2) ls' st M Q) : gP cs d own ini rt b pc ls (.int x :: st) M Q := gP.lift (fun _ _ kk0 => go_istore hd hl hk kk0) kk
theorem gp_istore_n {n : Fin 4} (hd : decode b pc = .ok (.istore_n n, 1)) (hl : mm_so ls (n : Nat) (.int x) = ls') (hk : (n : Nat) < ls.length) (kk : gP cs d own ini rt b (pc + 1) ls' st M Q) : gP cs d own ini rt b pc ls (.int x :: st) M Q := gP.lift (fun _ _ kk0 => go_istore_n hd hl hk kk0) kk
theorem gp_astore (hd : decode b pc = .ok (.astore k, 2)) (hl : mm_so ls k (.ref a) = ls') (hk : k < ls.length) (kk : gP cs d own ini rt b (pc + 2) ls' st M Q) : gP cs d own ini rt b pc ls (.ref a :: st) M Q := gP.lift (fun _ _ kk0 => go_astore hd hl hk kk0) kk
theorem gp_astore_n {n : Fin 4} (hd : decode b pc = .ok (.astore_n n, 1)) (hl : mm_so ls (n : Nat) (.ref a) = ls') (hk : (n : Nat) < ls.length) (kk : gP cs d own ini rt b (pc + 1) ls' st M Q) : gP cs d own ini rt b pc ls (.ref a :: st) M Q := gP.lift (fun _ _ kk0 => go_astore_n hd hl hk kk0) kk
theorem gp_iinc {n : Int} {v : Int32} (hd : decode b pc = .ok (.iinc k n, 3)) (h0 : ls[k]? = some (some (.int x))) (hv : Int32.ofInt n = v) (hl : mm_so ls k (.int (x + v)) = ls') (kk : gP cs d own ini rt b (pc + 3) ls' st M Q) : gP cs d own ini rt b pc ls st M Q := gP.lift (fun _ _ kk0 => go_iinc hd h0 hv hl kk0) kk
theorem gp_goto {off : Int} {t : Nat} (hd : decode b pc = .ok (.goto off, 3)) (ht : mm_tg pc off = some t) (kk : gP cs d own ini rt b t ls st M Q) : gP cs d own ini rt b pc ls st M Q := gP.lift (fun _ _ kk0 => go_goto hd ht kk0) kk
theorem gp_ts {df lo hi : Int} {offs : Array Int} {n : Nat} {off : Int} {t : Nat} (hd : decode b pc = .ok (.tableswitch df lo hi offs, n)) (ho : mm_ts x.toInt df lo hi offs = some off) (ht : mm_tg pc off = some t) (kk : gP cs d own ini rt b t ls st M Q) : gP cs d own ini rt b pc ls (.int x :: st) M Q := gP.lift (fun _ _ kk0 => go_ts hd ho ht kk0) kk
theorem gp_ls {df : Int} {ps : Array (Int × Int)} {n : Nat} {t : Nat} (hd : decode b pc = .ok (.lookupswitch df ps, n)) (hp : (ps.toList.zip (ps.toList.drop 1)).all (fun (a, next) => a.1 < next.1) = true) (ht : mm_tg pc (Op.lookupswitch.offset ps.toList df x.toInt) = some t) (kk : gP cs d own ini rt b t ls st M Q) : gP cs d own ini rt b pc ls (.int x :: st) M Q := gP.lift (fun _ _ kk0 => go_ls hd hp ht kk0) kk
theorem gp_gi (hd : decode b pc = .ok (.getfield idx, 3)) (hf : mm_fld own idx = some (c, j)) (ht : ¬ mm_ft c j = 2) (hk : mm_sh[k]? = some (c, 0)) (kk : gP cs d own ini rt b (pc + 3) ls (.int (I k j) :: st) (mm_sh, mm_R, I, L) Q) : gP cs d own ini rt b pc ls (.ref k :: st) (mm_sh, mm_R, I, L) Q := gP.lift (fun _ _ kk0 => go_gi hd hf ht hk kk0) kk
theorem gp_gr (hd : decode b pc = .ok (.getfield idx, 3)) (hf : mm_fld own idx = some (c, j)) (ht : mm_ft c j = 2) (hk : mm_sh[k]? = some (c, 0)) (hr : mm_R k j = some a) (kk : gP cs d own ini rt b (pc + 3) ls (.ref a :: st) (mm_sh, mm_R, I, L) Q) : gP cs d own ini rt b pc ls (.ref k :: st) (mm_sh, mm_R, I, L) Q := gP.lift (fun _ _ kk0 => go_gr hd hf ht hk hr kk0) kk
theorem gp_pi (hd : decode b pc = .ok (.putfield idx, 3)) (hf : mm_fld own idx = some (c, j)) (ht : mm_ft c j = 0) (hfi : mm_fi c j = false) (hk : mm_sh[k]? = some (c, 0)) (kk : gP cs d own ini rt b (pc + 3) ls st (mm_sh, mm_R, mm_u I k j x, L) Q) : gP cs d own ini rt b pc ls (.int x :: .ref k :: st) (mm_sh, mm_R, I, L) Q := gP.lift (fun _ _ kk0 => go_pi hd hf ht hfi hk kk0) kk
theorem gp_pz (hd : decode b pc = .ok (.putfield idx, 3)) (hf : mm_fld own idx = some (c, j)) (ht : mm_ft c j = 1) (hfi : mm_fi c j = false) (hx : x = 0 ∨ x = 1) (hk : mm_sh[k]? = some (c, 0)) (kk : gP cs d own ini rt b (pc + 3) ls st (mm_sh, mm_R, mm_u I k j x, L) Q) : gP cs d own ini rt b pc ls (.int x :: .ref k :: st) (mm_sh, mm_R, I, L) Q := gP.lift (fun _ _ kk0 => go_pz hd hf ht hfi hx hk kk0) kk
theorem gp_ial {n : Nat} (hd : decode b pc = .ok (.iaload, 1)) (hc : cs k = none) (hk : mm_sh[k]? = some (100, n)) (hin : mm_in x n = true) (kk : gP cs d own ini rt b (pc + 1) ls (.int (I k x.toNatClampNeg) :: st) (mm_sh, mm_R, I, L) Q) : gP cs d own ini rt b pc ls (.int x :: .ref k :: st) (mm_sh, mm_R, I, L) Q := gP.lift (fun _ _ kk0 => go_ial hd hc hk hin kk0) kk
theorem gp_iac {n : Nat} {f : Nat → Int32} (hd : decode b pc = .ok (.iaload, 1)) (hc : cs k = some (n, f)) (hin : mm_in x n = true) (kk : gP cs d own ini rt b (pc + 1) ls (.int (f x.toNatClampNeg) :: st) M Q) : gP cs d own ini rt b pc ls (.int x :: .ref k :: st) M Q := gP.lift (fun _ _ kk0 => go_iac hd hc hin kk0) kk
theorem gp_lal {n : Nat} (hd : decode b pc = .ok (.laload, 1)) (hk : mm_sh[k]? = some (101, n)) (hin : mm_in x n = true) (kk : gP cs d own ini rt b (pc + 1) ls (.long (L k x.toNatClampNeg) :: st) (mm_sh, mm_R, I, L) Q) : gP cs d own ini rt b pc ls (.int x :: .ref k :: st) (mm_sh, mm_R, I, L) Q := gP.lift (fun _ _ kk0 => go_lal hd hk hin kk0) kk
theorem gp_aal {n t : Nat} (hd : decode b pc = .ok (.aaload, 1)) (hk : mm_sh[k]? = some (t, n)) (ht : 102 ≤ t) (hin : mm_in x n = true) (hr : mm_R k x.toNatClampNeg = some a) (kk : gP cs d own ini rt b (pc + 1) ls (.ref a :: st) (mm_sh, mm_R, I, L) Q) : gP cs d own ini rt b pc ls (.int x :: .ref k :: st) (mm_sh, mm_R, I, L) Q := gP.lift (fun _ _ kk0 => go_aal hd hk ht hin hr kk0) kk
theorem gp_ias {n : Nat} (hd : decode b pc = .ok (.iastore, 1)) (hk : mm_sh[k]? = some (100, n)) (hin : mm_in x n = true) (kk : gP cs d own ini rt b (pc + 1) ls st (mm_sh, mm_R, mm_u I k x.toNatClampNeg y, L) Q) : gP cs d own ini rt b pc ls (.int y :: .int x :: .ref k :: st) (mm_sh, mm_R, I, L) Q := gP.lift (fun _ _ kk0 => go_ias hd hk hin kk0) kk
theorem gp_las {n : Nat} (hd : decode b pc = .ok (.lastore, 1)) (hk : mm_sh[k]? = some (101, n)) (hin : mm_in x n = true) (kk : gP cs d own ini rt b (pc + 1) ls st (mm_sh, mm_R, I, mm_u L k x.toNatClampNeg z) Q) : gP cs d own ini rt b pc ls (.long z :: .int x :: .ref k :: st) (mm_sh, mm_R, I, L) Q := gP.lift (fun _ _ kk0 => go_las hd hk hin kk0) kk
theorem gp_len {n : Nat} {v : Int32} (hd : decode b pc = .ok (.arraylength, 1)) (hc : cs k = none) {t : Nat} (hk : mm_sh[k]? = some (t, n)) (ht : 100 ≤ t) (hv : Int32.ofNat n = v) (kk : gP cs d own ini rt b (pc + 1) ls (.int v :: st) (mm_sh, mm_R, I, L) Q) : gP cs d own ini rt b pc ls (.ref k :: st) (mm_sh, mm_R, I, L) Q := gP.lift (fun _ _ kk0 => go_len hd hc hk ht hv kk0) kk
theorem gp_gs {f : Nat} (hd : decode b pc = .ok (.getstatic idx, 3)) (hf : mm_sta own idx = some (a, f)) (kk : gP cs d own ini rt b (pc + 3) ls (.ref a :: st) M Q) : gP cs d own ini rt b pc ls st M Q := gP.lift (fun _ _ kk0 => go_gs hd hf kk0) kk
theorem gp_ldc (hd : decode b pc = .ok (.ldc idx, 2)) (hf : mm_con own idx = some x) (kk : gP cs d own ini rt b (pc + 2) ls (.int x :: st) M Q) : gP cs d own ini rt b pc ls st M Q := gP.lift (fun _ _ kk0 => go_ldc hd hf kk0) kk
theorem gp_ldcw (hd : decode b pc = .ok (.ldc_w idx, 3)) (hf : mm_con own idx = some x) (kk : gP cs d own ini rt b (pc + 3) ls (.int x :: st) M Q) : gP cs d own ini rt b pc ls st M Q := gP.lift (fun _ _ kk0 => go_ldcw hd hf kk0) kk
theorem gp_ldcs (hd : decode b pc = .ok (.ldc idx, 2)) (h0 : mm_con own idx = none) (hf : mm_str own idx = some a) (kk : gP cs d own ini rt b (pc + 2) ls (.ref a :: st) M Q) : gP cs d own ini rt b pc ls st M Q := gP.lift (fun _ _ kk0 => go_ldcs hd h0 hf kk0) kk
theorem gp_ifc {cd : Jvm.ClassFile.Cond} {off : Int} {t : Nat} {P : Prop} (hd : decode b pc = .ok (.ifCond cd off, 3)) (ht : mm_tg pc off = some t) (hP : mm_c1 cd x = true ↔ P) (k1 : P → gP cs d own ini rt b t ls st M Q) (k2 : ¬ P → gP cs d own ini rt b (pc + 3) ls st M Q) : gP cs d own ini rt b pc ls (.int x :: st) M Q := by
  by_cases h : P
  · exact gP.lift (fun _ _ kk => go_ifc hd ht hP (fun _ => kk) (fun z => absurd h z)) (k1 h)
  · exact gP.lift (fun _ _ kk => go_ifc hd ht hP (fun z => absurd z h) (fun _ => kk)) (k2 h)
theorem gp_icc {cd : Jvm.ClassFile.Cond} {off : Int} {t : Nat} {P : Prop} (hd : decode b pc = .ok (.if_icmp cd off, 3)) (ht : mm_tg pc off = some t) (hP : mm_c2 cd x y = true ↔ P) (k1 : P → gP cs d own ini rt b t ls st M Q) (k2 : ¬ P → gP cs d own ini rt b (pc + 3) ls st M Q) : gP cs d own ini rt b pc ls (.int y :: .int x :: st) M Q := by
  by_cases h : P
  · exact gP.lift (fun _ _ kk => go_icc hd ht hP (fun _ => kk) (fun z => absurd h z)) (k1 h)
  · exact gP.lift (fun _ _ kk => go_icc hd ht hP (fun z => absurd z h) (fun _ => kk)) (k2 h)
theorem gp_call {i : Instr} {idx kind mi f na : Nat} {e : mm_Me} {args rest : List Value} {r1 : Option Value} {M1 : mm_M} (hd : decode b pc = .ok (i, 3)) (hi : i = .invokestatic idx ∧ kind = 0 ∨ i = .invokevirtual idx ∧ kind = 1 ∨ i = .invokespecial idx ∧ kind = 2) (hmt : mm_mt own idx = some (mi, f)) (h9 : ¬ 900 ≤ mi) (he : mm_me mi = some e) (hk : mm_kd e = kind) (hna : e.2.2.2.2.2.2.1 = na) (hs : st = args.reverse ++ rest) (hn : args.length = na) (hw : mm_cw rest = true) (hrc : mm_rc e args M = true) (hC : mm_Call d mi args M r1 M1) (hl : M1.1.length = M.1.length) (k : gP cs d own ini rt b (pc + 3) ls (r1.toList ++ rest) M1 Q) : gP cs d own ini rt b pc ls st M Q := gP.lift (fun _ _ kk0 => go_call hd hi hmt h9 he hk hna hs hn hw hrc hC hl kk0) k
theorem gp_bi {i : Instr} {idx kind mi f : Nat} {args rest : List Value} {r1 : Option Value} {M1 : mm_M} (hd : decode b pc = .ok (i, 3)) (hi : i = .invokestatic idx ∧ kind = 0 ∨ i = .invokevirtual idx ∧ kind = 1 ∨ i = .invokespecial idx ∧ kind = 2) (hmt : mm_mt own idx = some (mi, f)) (h9 : 900 ≤ mi) (hk : mm_bk mi = kind) (hs : st = args.reverse ++ rest) (hn : args.length = mm_nb mi) (hw : mm_cw rest = true) (hC : mm_bi d mi args M = some (r1, M1)) (hl : M1.1.length = M.1.length) (k : gP cs d own ini rt b (pc + 3) ls (r1.toList ++ rest) M1 Q) : gP cs d own ini rt b pc ls st M Q := gP.lift (fun _ _ kk0 => go_bi hd hi hmt h9 hk hs hn hw hC hl kk0) k
theorem gp_giv (hd : decode b pc = .ok (.getfield idx, 3)) (hf : mm_fld own idx = some (c, j)) (ht : ¬ mm_ft c j = 2) (hk : mm_sh[k]? = some (c, 0)) (hv : I k j = x) (kk : gP cs d own ini rt b (pc + 3) ls (.int x :: st) (mm_sh, mm_R, I, L) Q) : gP cs d own ini rt b pc ls (.ref k :: st) (mm_sh, mm_R, I, L) Q := by subst hv; exact gp_gi hd hf ht hk kk
theorem gp_ialv {n : Nat} (hd : decode b pc = .ok (.iaload, 1)) (hc : cs k = none) (hk : mm_sh[k]? = some (100, n)) (hin : mm_in x n = true) (hv : I k x.toNatClampNeg = y) (kk : gP cs d own ini rt b (pc + 1) ls (.int y :: st) (mm_sh, mm_R, I, L) Q) : gP cs d own ini rt b pc ls (.int x :: .ref k :: st) (mm_sh, mm_R, I, L) Q := by subst hv; exact gp_ial hd hc hk hin kk
theorem gp_iret (hd : decode b pc = .ok (.ireturn, 1)) (hr : rt = some .int) (hq : Q (some (.int x)) M) : gP cs d own ini rt b pc ls [.int x] M Q := gP.of_go (go_iret hd hr rfl rfl) hq
theorem gp_zret (hd : decode b pc = .ok (.ireturn, 1)) (hr : rt = some .boolean) (h0 : x = 0 ∨ x = 1) (hq : Q (some (.int x)) M) : gP cs d own ini rt b pc ls [.int x] M Q := gP.of_go (go_zret hd hr h0 rfl rfl) hq
theorem gp_lret (hd : decode b pc = .ok (.lreturn, 1)) (hr : rt = some .long) (hq : Q (some (.long z)) M) : gP cs d own ini rt b pc ls [.long z] M Q := gP.of_go (go_lret hd hr rfl rfl) hq
theorem gp_vret (hd : decode b pc = .ok (.return_, 1)) (hr : rt = none) (hq : Q none M) : gP cs d own ini rt b pc ls [] M Q := gP.of_go (go_vret hd hr rfl rfl) hq
theorem gp_callP {i : Instr} {idx kind mi f na : Nat} {e : mm_Me} {args rest : List Value} {Q1 : Option Value → mm_M → Prop} (hd : decode b pc = .ok (i, 3)) (hi : i = .invokestatic idx ∧ kind = 0 ∨ i = .invokevirtual idx ∧ kind = 1 ∨ i = .invokespecial idx ∧ kind = 2) (hmt : mm_mt own idx = some (mi, f)) (h9 : ¬ 900 ≤ mi) (he : mm_me mi = some e) (hk : mm_kd e = kind) (hna : e.2.2.2.2.2.2.1 = na) (hs : st = args.reverse ++ rest) (hn : args.length = na) (hw : mm_cw rest = true) (hrc : mm_rc e args M = true)
    (hC : cP d mi args M Q1) (hl : ∀ r1 M1, Q1 r1 M1 → M1.1.length = M.1.length) (k : ∀ r1 M1, Q1 r1 M1 → gP cs d own ini rt b (pc + 3) ls (r1.toList ++ rest) M1 Q) : gP cs d own ini rt b pc ls st M Q := by
  obtain ⟨r1, M1, hc, hq⟩ := hC
  exact gp_call hd hi hmt h9 he hk hna hs hn hw hrc hc (hl r1 M1 hq) (k r1 M1 hq)
theorem gp_callX {i : Instr} {idx kind mi f na : Nat} {e : mm_Me} {args rest : List Value} {v : Option Value} {I0 : pI} {L0 L1 : pL} {X : pI → Prop} (hd : decode b pc = .ok (i, 3)) (hi : i = .invokestatic idx ∧ kind = 0 ∨ i = .invokevirtual idx ∧ kind = 1 ∨ i = .invokespecial idx ∧ kind = 2) (hmt : mm_mt own idx = some (mi, f)) (h9 : ¬ 900 ≤ mi) (he : mm_me mi = some e) (hk : mm_kd e = kind) (hna : e.2.2.2.2.2.2.1 = na) (hs : st = args.reverse ++ rest) (hn : args.length = na) (hw : mm_cw rest = true) (hrc : mm_rc e args (mm_sh, mm_R, I0, L0) = true)
    (hC : cP d mi args (mm_sh, mm_R, I0, L0) (pX v L1 X)) (k : ∀ J, X J → gP cs d own ini rt b (pc + 3) ls (v.toList ++ rest) (mm_sh, mm_R, J, L1) Q) : gP cs d own ini rt b pc ls st (mm_sh, mm_R, I0, L0) Q := by
  refine gp_callP hd hi hmt h9 he hk hna hs hn hw hrc hC ?_ ?_
  · rintro r1 M1 ⟨-, J, rfl, -⟩; rfl
  · rintro r1 M1 ⟨rfl, J, rfl, hs⟩; exact k J hs
end MMGP
