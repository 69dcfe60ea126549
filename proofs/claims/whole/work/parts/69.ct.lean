/-! CONTRACTS of the class's times; least of several; bounds of times -/
section P69
variable {I C J : pI} {L : pL} {N S : Nat}
theorem ct_timeOf (d : Nat) (hb : bR I N S) (hs : sc I J) {c : Int32} (hc : 0 ≤ c ∧ c < nI N) : cP (d + 5) 109 [.ref 0, .int c] (mm_sh, mm_R, J, L) (pX (some (.int (tC I c.toNatClampNeg))) L (sc I)) := cP.of_x (ok_X8_timeOf d J L c (hb.nOk hs hc)) (by rw [tim_of hb hs hc]) (hs.take c)
/-- times of child c (a number) of kind k, in sack k, rolling b, with legs l, of two -/
def tK (I : pI) (c : Nat) (k : Nat) : Int32 := tq I (nI k) (I 111 c) (I 112 c) (I 113 c) (I 114 c) (I 108 6) 0
def tS (I : pI) (c : Nat) (k : Nat) : Int32 := tq I (I 110 c) (I 111 c) (I 112 c) (nI k) (I 114 c) (I 108 6) 0
def tR (I : pI) (c : Nat) (b : Int32) : Int32 := tq I (I 110 c) (I 111 c) (I 112 c) (I 113 c) (I 114 c) b 0
def tG (I : pI) (c : Nat) (l : Nat) : Int32 := tq I (I 110 c) (I 111 c) (nI l) (I 113 c) (I 114 c) (I 108 6) 0
theorem ct_timeAs (d : Nat) (hb : bR I N S) (hs : sc I J) {c : Int32} (hc : 0 ≤ c ∧ c < nI N) {k : Nat} (hk : k < 7) : cP (d + 5) 110 [.ref 0, .int c, .int (nI k)] (mm_sh, mm_R, J, L) (pX (some (.int (tK I c.toNatClampNeg k))) L (sc I)) := cP.of_x (ok_X8_timeAs d J L c (hb.nOk hs hc) _ (isKd_n hk)) (by rw [tim_as hb hs hc (isKd_n hk)]; rfl) (hs.ask c _)
theorem ct_timeIn (d : Nat) (hb : bR I N S) (hs : sc I J) {c : Int32} (hc : 0 ≤ c ∧ c < nI N) {k : Nat} (hk : k < S) : cP (d + 5) 111 [.ref 0, .int c, .int (nI k)] (mm_sh, mm_R, J, L) (pX (some (.int (tS I c.toNatClampNeg k))) L (sc I)) := cP.of_x (ok_X8_timeIn d J L c (hb.nOk hs hc) _) (by rw [tim_in hb hs hc ⟨nI_pos' (by have := hb.n.2.1; omega), nI_lt hk (by have := hb.n.2.1; omega)⟩]; rfl) (hs.inn c _)
theorem ct_timeRolling (d : Nat) (hb : bR I N S) (hs : sc I J) {c : Int32} (hc : 0 ≤ c ∧ c < nI N) {b : Int32} (hk : b = 0 ∨ b = 1) : cP (d + 5) 112 [.ref 0, .int c, .int b] (mm_sh, mm_R, J, L) (pX (some (.int (tR I c.toNatClampNeg b))) L (sc I)) := cP.of_x (ok_X8_timeRolling d J L c (hb.nOk hs hc) _ hk) (by rw [tim_rol hb hs hc hk]; rfl) (hs.rol c _)
theorem ct_timeOfTwo (d : Nat) (hb : bR I N S) (hs : sc I J) {c e k : Int32} (hc : 0 ≤ c ∧ c < nI N) (he : 0 ≤ e ∧ e < nI N) (hk : 0 ≤ k ∧ k < nI S) : cP (d + 5) 113 [.ref 0, .int c, .int e, .int k] (mm_sh, mm_R, J, L) (pX (some (.int (q_two I c e k))) L (sc I)) := cP.of_x (ok_X8_timeOfTwo d J L c e k (hb.nOk hs hc) (by rw [hb.c11 hs]; exact he)) (by rw [tim_two hb hs hc he hk]; rfl) (hs.two c e k)
theorem nI_wi {l : Nat} {a b : Nat} (h : a ≤ l) (h2 : l ≤ b) (h3 : b ≤ 2000) : wi (nI l) a b := by
  unfold wi
  rw [ti_nI (by omega)]
  omega
theorem ct_legT (d : Nat) (hb : bR I N S) (hs : sc I J) {c : Int32} (hc : 0 ≤ c ∧ c < nI N) {l : Nat} (hl : l ≤ 9) : cP (d + 4) 32 [.ref 62, .ref 1] (mm_sh, mm_R, mm_u (x_take J 62 1 c) 63 2 (nI l), L) (pX (some (.int (tG I c.toNatClampNeg l))) L (sc I)) := by
  obtain ⟨h1, h2, h3⟩ := tk_c hb hs hc
  have h8 := (hb.cl hc).2.1
  have hk := hb.k h8
  have e2 : mm_u (x_take J 62 1 c) 63 2 (nI l) 63 2 = nI l := mm_u_s _ _ _ _
  have ej : ∀ j, j ≠ 2 → mm_u (x_take J 62 1 c) 63 2 (nI l) 63 j = x_take J 62 1 c 63 j := fun j hj => mm_u_j _ _ hj
  have e62 : ∀ j, mm_u (x_take J 62 1 c) 63 2 (nI l) 62 j = x_take J 62 1 c 62 j := fun j => mm_u_o _ _ _ _ (by decide)
  refine cP.of_x (ok_X4_timeToRope d _ L 62 1 isRa_62 isF_1 (by decide) (by rw [ej 0 (by decide), h1 0 (by omega)]; exact isKd_wi hk.1) ?_) ?_ ?_
  · rw [mm_u_o _ _ _ _ (by decide), x_take_o _ _ (by decide) (by decide), hb.c13 hs]
    exact nI_le (b := 8) hb.n.2.1 (by omega)
  · have e := tim_gen (X := mm_u (x_take J 62 1 c) 63 2 (nI l)) hb hs (fun k a b => by rw [mm_u_k _ _ _ b, x_take_o J c a b]) (by rw [ej 0 (by decide), h1 0 (by omega)]; exact hk.1) (by rw [e2]; exact nI_wi (a := 0) (b := 9) (by omega) hl (by omega)) (by rw [ej 3 (by decide), h1 3 (by omega)]; exact hb.sk h8) (fun _ => by rw [e62]; exact h2) (by rw [e62, h3]; exact hb.rl)
    rw [e2, e62, e62, ej 0 (by decide), ej 1 (by decide), ej 3 (by decide), ej 4 (by decide), h1 0 (by omega), h1 1 (by omega), h1 3 (by omega), h1 4 (by omega), h2, h3] at e
    exact congrArg some (congrArg Value.int e)
  · exact hs.e62 fun k a b => by rw [sr_other _ _ a, mm_u_k _ _ _ b, x_take_o J c a b]
/-- a time is 0 .. 999 -/
theorem h_cnt_le (rl up st pf rk w : Int32) (n : Nat) : ∀ s : hS, h_cnt rl up st pf rk w n s ≤ n := by
  induction n with
  | zero => intro s; exact Nat.le_refl _
  | succ n ih =>
    intro s
    unfold h_cnt
    split
    · have := ih (h_s rl up st pf rk s); omega
    · omega
theorem h_in_wi {rl up st pf rk w ro ah br : Int32} (h : wi ro 0 9) : wi (h_in rl up st pf rk w ro ah br) 0 999 := by
  unfold h_in
  split
  · exact ⟨by decide, by decide⟩
  · have hc := h_cnt_le rl up st pf rk w 999 (h_0 ah br)
    have e : (nI (h_cnt rl up st pf rk w 999 (h_0 ah br)) + ro).toInt = (h_cnt rl up st pf rk w 999 (h_0 ah br) : Int) + ro.toInt := by
      obtain ⟨a, b⟩ := h
      rw [ti_add (by rw [ti_nI (by omega)]; omega) (by rw [ti_nI (by omega)]; omega), ti_nI (by omega)]
    obtain ⟨a, b⟩ := h
    split
    · exact ⟨by decide, by decide⟩
    · rename_i z
      rw [ti_lt, ti_999, e] at z
      unfold wi
      rw [e]
      omega
theorem m_ro_wi {rp l : Int32} (h : wi rp 0 9) (h2 : wi l 0 9) : wi (m_ro rp l) 0 9 := by
  unfold m_ro
  split
  · rename_i z
    rw [ti_lt] at z
    obtain ⟨a, b⟩ := h
    obtain ⟨c, d⟩ := h2
    unfold wi
    rw [ti_sub (by omega) (by omega)]
    omega
  · exact ⟨by decide, by decide⟩
theorem tq_wi (v : vN I N S) {κ a l k ah rl mo : Int32} (hl : wi l 0 9) : wi (tq I κ a l k ah rl mo) 0 999 := h_in_wi (m_ro_wi v.2.2.2.2.2.2.1 hl)
theorem tC_wi (v : vN I N S) {c : Nat} (h : c < 8) : wi (tC I c) 0 999 := tq_wi v (v.k h).2.2.1
theorem wi_lt {x : Int32} (h : wi x 0 999) : x < 1000 := by
  rw [ti_lt, show (1000 : Int32).toInt = 1000 from by decide]
  have := h.2; omega
theorem wi_le {x : Int32} (h : wi x 0 999) : x ≤ 999 := by
  rw [ti_le, ti_999]
  exact h.2
theorem x_win_cg {ρ σ : mRow} (n : Nat) (h : ∀ k, k < n → ρ k = σ k) : x_win n ρ = x_win n σ := by
  induction n with
  | zero => rfl
  | succ n ih =>
    have e := ih (fun k hk => h k (by omega))
    unfold x_win
    by_cases z : n = 0
    · rw [if_pos z, if_pos z]
    · have := x_win_lt n σ (by omega)
      rw [if_neg z, if_neg z, e, h n (by omega), h _ (by omega)]
theorem x_lst_cg {b : Int32} {T U : Nat → Int32} (n : Nat) (h : ∀ k, k < n → T k = U k) : x_lst b T n = x_lst b U n := by
  induction n with
  | zero => rfl
  | succ n ih =>
    unfold x_lst
    rw [ih (fun k hk => h k (by omega)), h n (by omega)]
theorem lst_win {T : Nat → Int32} (n : Nat) (h : ∀ k, k < n → T k < 1000) : 0 < n → x_lst 1000 T n = (nI (x_win n T), T (x_win n T)) := by
  induction n with
  | zero => intro z; omega
  | succ n ih =>
    intro _
    unfold x_lst x_win
    by_cases z : n = 0
    · subst z
      have : T 0 < (x_lst 1000 T 0).2 := h 0 (by omega)
      rw [if_pos this, if_pos rfl]
    · rw [ih (fun k hk => h k (by omega)) (by omega), if_neg z]
      dsimp only
      split <;> rfl
theorem x_nxt_cg {w : Int32} {ρ σ : mRow} (n : Nat) (h : ∀ k, k < n → ρ k = σ k) : x_nxt w ρ n = x_nxt w σ n := by
  induction n with
  | zero => rfl
  | succ n ih =>
    unfold x_nxt
    rw [ih (fun k hk => h k (by omega)), h n (by omega)]
/-- all times -/
theorem x_all_T (hb : bR I N S) (n : Nat) (hn : n ≤ N) : sc I (x_all n I) ∧ ∀ c, c < n → x_all n I 73 c = tC I c := by
  induction n with
  | zero => exact ⟨sc.rf I, fun c hc => by omega⟩
  | succ n ih =>
    obtain ⟨a, b⟩ := ih (by omega)
    have hN := hb.n.1
    have hc : 0 ≤ nI n ∧ nI n < nI N := ⟨nI_pos' (by omega), nI_lt (by omega) (by omega)⟩
    have e := tim_of hb a hc
    rw [nI_clamp (by omega)] at e
    refine ⟨(a.take (nI n)).u rfl, fun c hc2 => ?_⟩
    show mm_u _ 73 (nI n).toNatClampNeg _ 73 c = _
    rw [mm_u_i, nI_clamp (by omega)]
    by_cases z : c = n
    · rw [if_pos ⟨rfl, z⟩, e, z]
    · rw [if_neg (fun q => z q.2), x_end_take _ _ (by decide) (by decide)]
      exact b c (by omega)
theorem ct_timeAll (d : Nat) (hb : bR I N S) : cP (d + 6) 114 [.ref 0] (mm_sh, mm_R, I, L) (pX none L (fun K => sc I K ∧ ∀ c, c < N → K 73 c = tC I c)) := cP.of_x (ok_X8_timeAll d I L N (hb.fOk (sc.rf I))) rfl (x_all_T hb N (Nat.le_refl N))
theorem ct_winner (d : Nat) (hb : bR I N S) (hs : sc I J) (hT : ∀ c, c < N → J 73 c = tC I c) : cP (d + 1) 115 [.ref 0] (mm_sh, mm_R, J, L) (pX (some (.int (nI (x_win N (tC I))))) L (fun K => K = J)) := cP.of_x (ok_X8_winner d J L N hb.n.1 (hb.c11 hs)) (by rw [x_win_cg N hT]) rfl
theorem ct_leadOf (d : Nat) (hb : bR I N S) (hs : sc I J) (hT : ∀ c, c < N → J 73 c = tC I c) {w : Nat} (hw : w < N) : cP (d + 2) 116 [.ref 0, .int (nI w)] (mm_sh, mm_R, J, L) (pX (some (.int (x_lead (nI w) (tC I) N))) L (fun K => K = J)) := by
  refine cP.of_x (ok_X8_leadOf d J L N hb.n.1 (hb.c11 hs) (nI w) (hb.1.in8 ⟨nI_pos' (by have := hb.n.1; omega), nI_lt hw (by have := hb.n.1; omega)⟩)) ?_ rfl
  unfold x_lead
  rw [x_nxt_cg N hT, nI_clamp (by have := hb.n.1; omega), hT w hw]
theorem bkM_sc (hb : bR I N S) (hs : sc I J) (c : Int32) (n : Nat) : sc I (x_bkM J c n) := by
  induction n with
  | zero => exact hs
  | succ n ih => exact ih.ask c _
theorem bsM_sc (hb : bR I N S) (hs : sc I J) (c : Int32) (n : Nat) : sc I (x_bsM J c n) := by
  induction n with
  | zero => exact hs
  | succ n ih => exact ih.inn c _
theorem tK_wi (v : vN I N S) {c : Nat} (h : c < 8) (k : Nat) : wi (tK I c k) 0 999 := tq_wi v (v.k h).2.2.1
theorem tS_wi (v : vN I N S) {c : Nat} (h : c < 8) (k : Nat) : wi (tS I c k) 0 999 := tq_wi v (v.k h).2.2.1
theorem ct_bestKind (d : Nat) (hb : bR I N S) {c : Int32} (hc : 0 ≤ c ∧ c < nI N) : cP (d + 6) 117 [.ref 0, .int c] (mm_sh, mm_R, I, L) (pX (some (.int (nI (x_win 7 (tK I c.toNatClampNeg))))) L (sc I)) := by
  refine cP.of_x (ok_X8_bestKind d I L N (hb.fOk (sc.rf I)) c (by rw [hb.c11 (sc.rf I)]; exact hc)) ?_ (bkM_sc hb (sc.rf I) c 7)
  rw [x_lst_cg (U := tK I c.toNatClampNeg) 7 (fun k hk => ?_), lst_win 7 (fun k hk => wi_lt (tK_wi hb.1 (hb.cl hc).2.1 k)) (by omega)]
  unfold x_bkT
  rw [tim_as hb (bkM_sc hb (sc.rf I) c k) hc (isKd_n hk)]
  rfl
theorem ct_bestSack (d : Nat) (hb : bR I N S) (hS : 0 < S) {c : Int32} (hc : 0 ≤ c ∧ c < nI N) : cP (d + 6) 118 [.ref 0, .int c] (mm_sh, mm_R, I, L) (pX (some (.int (nI (x_win S (tS I c.toNatClampNeg))))) L (sc I)) := by
  refine cP.of_x (ok_X8_bestSack d I L N (hb.fOk (sc.rf I)) c (by rw [hb.c11 (sc.rf I)]; exact hc) S hb.n.2.1 (hb.c13 (sc.rf I))) ?_ (bsM_sc hb (sc.rf I) c S)
  rw [x_lst_cg (U := tS I c.toNatClampNeg) S (fun k hk => ?_), lst_win S (fun k hk => wi_lt (tS_wi hb.1 (hb.cl hc).2.1 k)) hS]
  unfold x_bsT
  rw [tim_in hb (bsM_sc hb (sc.rf I) c k) hc ⟨nI_pos' (by have := hb.n.2.1; omega), nI_lt hk (by have := hb.n.2.1; omega)⟩]
  rfl
/-- the reference's, with plain numbers -/
theorem ch_n (v : vN I N S) {i : Nat} (h : i < N) : 0 ≤ nI i ∧ nI i < nI N := ⟨nI_pos' (by have := v.1; omega), nI_lt h (by have := v.1; omega)⟩
theorem sk_n (v : vN I N S) {i : Nat} (h : i < S) : 0 ≤ nI i ∧ nI i < nI S := ⟨nI_pos' (by have := v.2.1; omega), nI_lt h (by have := v.2.1; omega)⟩
theorem mn_inOf (d : Nat) (v : vN I N S) (hs : mR I C J) {c : Nat} (hc : c < N) : cP (d + 7) 180 [.ref 108, .int (nI c)] (mm_sh, mm_R, J, L) (pX (some (.int (tC I c))) L (mR I C)) := by
  have := mt_inOf d L v hs (ch_n v hc)
  rw [nI_clamp (by have := v.1; omega)] at this
  exact this
theorem mn_inAs (d : Nat) (v : vN I N S) (hs : mR I C J) {c : Int32} (hc : 0 ≤ c ∧ c < nI N) {k : Nat} (hk : k < 7) : cP (d + 7) 182 [.ref 108, .int c, .int (nI k)] (mm_sh, mm_R, J, L) (pX (some (.int (tK I c.toNatClampNeg k))) L (mR I C)) := mt_inAs d L v hs hc (isKd_n hk)
theorem mn_inWith (d : Nat) (v : vN I N S) (hs : mR I C J) {c : Int32} (hc : 0 ≤ c ∧ c < nI N) {k : Nat} (hk : k < S) : cP (d + 7) 181 [.ref 108, .int c, .int (nI k)] (mm_sh, mm_R, J, L) (pX (some (.int (tS I c.toNatClampNeg k))) L (mR I C)) := mt_inWith d L v hs hc (sk_n v hk)
end P69
