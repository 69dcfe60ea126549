/-! STARTS: where one is shifts with his AHEAD; the least AHEAD -/
section P89
variable {I C J : pI} {L : pL} {N S : Nat}
def h_secs (rl up st pf rk : Int32) : Nat → hS → hS
  | 0, s => s
  | n + 1, s => h_secs rl up st pf rk n (h_s rl up st pf rk s)
theorem h_secs_s (rl up st pf rk : Int32) (n : Nat) : ∀ s, h_secs rl up st pf rk (n + 1) s = h_s rl up st pf rk (h_secs rl up st pf rk n s) := by
  induction n with
  | zero => intro s; rfl
  | succ n ih => intro s; exact ih (h_s rl up st pf rk s)
/-- a second: what it adds to the place, and the rest -/
theorem h_s_d (rl up st pf rk : Int32) (s : hS) : ∃ δ : Int32, (δ = 0 ∨ δ = 1 ∨ δ = st) ∧ (h_s rl up st pf rk s).1 = s.1 + δ ∧ ∀ x, h_s rl up st pf rk (x, s.2) = (x + δ, (h_s rl up st pf rk s).2) := by
  by_cases h1 : 0 < s.2.2.2.1
  · by_cases h2 : rl = 1
    · exact ⟨1, Or.inr (Or.inl rfl), by unfold h_s; rw [if_pos h1, if_pos h2], fun x => by unfold h_s; rw [if_pos h1, if_pos h1, if_pos h2]⟩
    · exact ⟨0, Or.inl rfl, by unfold h_s; rw [if_pos h1, if_neg h2]; simp, fun x => by unfold h_s; rw [if_pos h1, if_pos h1, if_neg h2]; simp⟩
  · by_cases h3 : 100 ≤ h_w pf rk s
    · have h3' : ∀ x, 100 ≤ h_w pf rk (x, s.2) := fun x => h3
      exact ⟨0, Or.inl rfl, by unfold h_s; rw [if_neg h1, if_pos h3]; simp, fun x => by unfold h_s; rw [if_neg h1, if_neg h1, if_pos h3, if_pos (h3' x)]; simp; rfl⟩
    · have h3' : ∀ x, ¬ 100 ≤ h_w pf rk (x, s.2) := fun x => h3
      exact ⟨st, Or.inr (Or.inr rfl), by unfold h_s; rw [if_neg h1, if_neg h3], fun x => by unfold h_s; rw [if_neg h1, if_neg h1, if_neg h3, if_neg (h3' x)]; rfl⟩
theorem h_secs_b {rl up st pf rk : Int32} (hst : wi st 0 20) (n : Nat) (hn : n ≤ 1000) : ∀ s : hS, wi s.1 0 1000 → s.1.toInt ≤ (h_secs rl up st pf rk n s).1.toInt ∧ (h_secs rl up st pf rk n s).1.toInt ≤ s.1.toInt + 20 * n := by
  induction n with
  | zero => intro s hs; exact ⟨Int.le_refl _, by show s.1.toInt ≤ _; omega⟩
  | succ n ih =>
    intro s hs
    obtain ⟨a, b⟩ := ih (by omega) s hs
    rw [h_secs_s]
    obtain ⟨δ, hd, e, -⟩ := h_s_d rl up st pf rk (h_secs rl up st pf rk n s)
    have hd2 : 0 ≤ δ.toInt ∧ δ.toInt ≤ 20 := by
      rcases hd with rfl | rfl | rfl
      · decide
      · decide
      · exact hst
    obtain ⟨c, d⟩ := hs
    rw [e, ti_add (by omega) (by omega)]
    omega
theorem h_secs_m {rl up st pf rk : Int32} (hst : wi st 0 20) (s : hS) (hs : wi s.1 0 1000) (m k : Nat) (h : m + k ≤ 1000) : (h_secs rl up st pf rk m s).1.toInt ≤ (h_secs rl up st pf rk (m + k) s).1.toInt := by
  induction k with
  | zero => exact Int.le_refl _
  | succ k ih =>
    have i1 := ih (by omega)
    obtain ⟨a, b⟩ := h_secs_b (rl := rl) (up := up) (pf := pf) (rk := rk) hst (m + k) (by omega) s hs
    rw [show m + (k + 1) = m + k + 1 by omega, h_secs_s]
    obtain ⟨δ, hd, e, -⟩ := h_s_d rl up st pf rk (h_secs rl up st pf rk (m + k) s)
    have hd2 : 0 ≤ δ.toInt ∧ δ.toInt ≤ 20 := by
      rcases hd with rfl | rfl | rfl
      · decide
      · decide
      · exact hst
    obtain ⟨c, d⟩ := hs
    rw [e, ti_add (by omega) (by omega)]
    omega
theorem h_secs_sh (rl up st pf rk : Int32) (n : Nat) : ∀ (s : hS) (x : Int32), h_secs rl up st pf rk n (s.1 + x, s.2) = ((h_secs rl up st pf rk n s).1 + x, (h_secs rl up st pf rk n s).2) := by
  induction n with
  | zero => intro s x; rfl
  | succ n ih =>
    intro s x
    obtain ⟨δ, -, e, f⟩ := h_s_d rl up st pf rk s
    show h_secs rl up st pf rk n (h_s rl up st pf rk (s.1 + x, s.2)) = _
    rw [f (s.1 + x), show s.1 + x + δ = (h_s rl up st pf rk s).1 + x by rw [e, Int32.add_assoc, Int32.add_assoc, Int32.add_comm x δ]]
    exact ih (h_s rl up st pf rk s) x
theorem h_go_c (rl up st pf rk w : Int32) (n : Nat) : ∀ s : hS, h_go rl up st pf rk w n s = h_secs rl up st pf rk (h_cnt rl up st pf rk w n s) s ∧ (∀ k, k < h_cnt rl up st pf rk w n s → (h_secs rl up st pf rk k s).1 < w) ∧ ((h_go rl up st pf rk w n s).1 < w → h_cnt rl up st pf rk w n s = n) := by
  induction n with
  | zero => intro s; exact ⟨rfl, fun k hk => absurd hk (Nat.not_lt_zero _), fun _ => rfl⟩
  | succ n ih =>
    intro s
    unfold h_go h_cnt
    by_cases h : s.1 < w
    · obtain ⟨a, b, c⟩ := ih (h_s rl up st pf rk s)
      rw [if_pos h, if_pos h]
      refine ⟨a, fun k hk => ?_, fun z => by rw [c z]⟩
      cases k with
      | zero => exact h
      | succ k => exact b k (by omega)
    · rw [if_neg h, if_neg h]
      exact ⟨rfl, fun k hk => by omega, fun z => absurd z h⟩
/-- in by t, if at the rope that early -/
theorem h_in_le {rl up st pf rk w ro ah br t : Int32} (hst : wi st 0 20) (hah : wi ah 0 99) (hro : wi ro 0 9) (ht : wi t 0 998) : h_in rl up st pf rk w ro ah br ≤ t ↔ (ro ≤ t ∧ w ≤ (h_secs rl up st pf rk (t.toInt - ro.toInt).toNat (h_0 ah br)).1) := by
  obtain ⟨a, b, c⟩ := h_go_c rl up st pf rk w 999 (h_0 ah br)
  have hc := h_cnt_le rl up st pf rk w 999 (h_0 ah br)
  obtain ⟨t0, t9⟩ := ht
  obtain ⟨r0, r9⟩ := hro
  have h0 : wi (h_0 ah br).1 0 1000 := ⟨hah.1, by have := hah.2; show ah.toInt ≤ 1000; omega⟩
  unfold h_in
  by_cases z : (h_go rl up st pf rk w 999 (h_0 ah br)).1 < w
  · rw [if_pos z]
    constructor
    · intro q; rw [ti_le, ti_999] at q; omega
    · rintro ⟨q1, q2⟩
      rw [ti_le] at q1
      have := b (t.toInt - ro.toInt).toNat (by rw [c z]; omega)
      exact absurd q2 (Int32.not_le.mpr this)
  · rw [if_neg z]
    have e : (nI (h_cnt rl up st pf rk w 999 (h_0 ah br)) + ro).toInt = (h_cnt rl up st pf rk w 999 (h_0 ah br) : Int) + ro.toInt := by
      rw [ti_add (by rw [ti_nI (by omega)]; omega) (by rw [ti_nI (by omega)]; omega), ti_nI (by omega)]
    have key : (if 999 < nI (h_cnt rl up st pf rk w 999 (h_0 ah br)) + ro then 999 else nI (h_cnt rl up st pf rk w 999 (h_0 ah br)) + ro) ≤ t ↔ (h_cnt rl up st pf rk w 999 (h_0 ah br) : Int) + ro.toInt ≤ t.toInt := by
      by_cases y : 999 < nI (h_cnt rl up st pf rk w 999 (h_0 ah br)) + ro
      · rw [if_pos y]
        rw [ti_lt, ti_999, e] at y
        rw [ti_le, ti_999]; omega
      · rw [if_neg y, ti_le, e]
    rw [key]
    constructor
    · intro q
      refine ⟨by rw [ti_le]; omega, ?_⟩
      have hw : w ≤ (h_secs rl up st pf rk (h_cnt rl up st pf rk w 999 (h_0 ah br)) (h_0 ah br)).1 := by rw [← a]; exact Int32.not_lt.mp z
      have hm := h_secs_m (rl := rl) (up := up) (pf := pf) (rk := rk) hst (h_0 ah br) h0 (h_cnt rl up st pf rk w 999 (h_0 ah br)) ((t.toInt - ro.toInt).toNat - h_cnt rl up st pf rk w 999 (h_0 ah br)) (by omega)
      rw [show h_cnt rl up st pf rk w 999 (h_0 ah br) + ((t.toInt - ro.toInt).toNat - h_cnt rl up st pf rk w 999 (h_0 ah br)) = (t.toInt - ro.toInt).toNat by omega] at hm
      rw [ti_le] at hw ⊢
      omega
    · rintro ⟨q1, q2⟩
      rw [ti_le] at q1
      by_cases y : (t.toInt - ro.toInt).toNat < h_cnt rl up st pf rk w 999 (h_0 ah br)
      · exact absurd q2 (Int32.not_le.mpr (b _ y))
      · omega
/-- the place after n seconds from AHEAD 0 -/
def h_at (rl up st pf rk br : Int32) (n : Nat) : Int32 := (h_secs rl up st pf rk n (h_0 0 br)).1
theorem h_at_ah (rl up st pf rk br ah : Int32) (n : Nat) : (h_secs rl up st pf rk n (h_0 ah br)).1 = h_at rl up st pf rk br n + ah := by
  have := h_secs_sh rl up st pf rk n (h_0 0 br) ah
  rw [show ((h_0 0 br).1 + ah, (h_0 0 br).2) = h_0 ah br by unfold h_0; simp] at this
  rw [this]
  rfl
theorem y_leg_th {T : Nat → Int32} {x : Int32} {k : Nat} (n : Nat) : ∀ l, (∀ j, l ≤ j → j < l + n → (T j ≤ x ↔ k ≤ j)) → y_leg T x n l = if (if k ≤ l then l else k) < l + n then nI (if k ≤ l then l else k) else -1 := by
  induction n with
  | zero =>
    intro l _
    by_cases h : k ≤ l
    · rw [if_pos h, if_neg (by omega)]; rfl
    · rw [if_neg h, if_neg (by omega)]; rfl
  | succ n ih =>
    intro l hl
    unfold y_leg
    have e := hl l (by omega) (by omega)
    by_cases h : k ≤ l
    · rw [if_pos (e.mpr h), if_pos h, if_pos (by omega)]
    · rw [if_neg (fun z => h (e.mp z)), if_neg h, ih (l + 1) (fun j h1 h2 => hl j (by omega) (by omega))]
      by_cases h2 : k ≤ l + 1
      · rw [if_pos h2, show l + 1 = k by omega]
        by_cases h3 : k < k + n
        · rw [if_pos h3, if_pos (by omega)]
        · rw [if_neg h3, if_neg (by omega)]
      · rw [if_neg h2, show l + 1 + n = l + (n + 1) by omega]
theorem y_leg_no {T : Nat → Int32} {x : Int32} (n : Nat) : ∀ l, (∀ j, l ≤ j → j < l + n → ¬ T j ≤ x) → y_leg T x n l = -1 := by
  induction n with
  | zero => intro l _; rfl
  | succ n ih =>
    intro l hl
    unfold y_leg
    rw [if_neg (hl l (by omega) (by omega))]
    exact ih (l + 1) (fun j h1 h2 => hl j (by omega) (by omega))
/-- the least AHEAD from which one is in by t, as the class finds it -/
def h_laf (rl up st pf rk w ro br t : Int32) : Int32 := if 999 ≤ t then 0 else if t - ro < 0 then -1 else if 99 < i_max 0 (w - h_at rl up st pf rk br (t - ro).toNatClampNeg) then -1 else i_max 0 (w - h_at rl up st pf rk br (t - ro).toNatClampNeg)
theorem h_laf_e {rl up st pf rk w ro br t : Int32} (hst : wi st 0 20) (hro : wi ro 0 9) (hw : wi w 1 200) (ht : wi t 0 999) : h_laf rl up st pf rk w ro br t = y_leg (fun v => h_in rl up st pf rk w ro (nI v) br) t 100 0 := by
  obtain ⟨t0, t9⟩ := ht
  unfold h_laf
  by_cases h9 : 999 ≤ t
  · rw [if_pos h9]
    have : h_in rl up st pf rk w ro (nI 0) br ≤ t := Int32.le_trans (wi_le (h_in_wi hro)) h9
    exact (if_pos this).symm
  · rw [if_neg h9]
    have h9' : t.toInt ≤ 998 := by
      rw [ti_le, ti_999] at h9; omega
    have hle : ∀ v, v < 100 → (h_in rl up st pf rk w ro (nI v) br ≤ t ↔ (ro ≤ t ∧ w ≤ (h_secs rl up st pf rk (t.toInt - ro.toInt).toNat (h_0 (nI v) br)).1)) := fun v hv => h_in_le hst (nI_wi (a := 0) (b := 99) (by omega) (by omega) (by omega)) hro ⟨t0, h9'⟩
    obtain ⟨r0, r9⟩ := hro
    have hs : (t - ro).toInt = t.toInt - ro.toInt := ti_sub (by omega) (by omega)
    by_cases hn : t - ro < 0
    · rw [if_pos hn]
      rw [ti_lt, hs, ti_0] at hn
      rw [y_leg_no]
      intro v _ hv
      show ¬ h_in rl up st pf rk w ro (nI v) br ≤ t
      rw [hle v (by omega)]
      rintro ⟨q, -⟩
      rw [ti_le] at q
      omega
    · rw [if_neg hn]
      have hcl : (t - ro).toNatClampNeg = (t.toInt - ro.toInt).toNat := by
        unfold Int32.toNatClampNeg; rw [hs]
      rw [ti_lt, hs, ti_0] at hn
      rw [hcl]
      have hb := h_secs_b (rl := rl) (up := up) (pf := pf) (rk := rk) hst (t.toInt - ro.toInt).toNat (by omega) (h_0 0 br) ⟨by show (0 : Int) ≤ (0 : Int32).toInt; decide, by show (0 : Int32).toInt ≤ 1000; decide⟩
      obtain ⟨b0, b1⟩ := hb
      have z0 : (h_0 0 br).1.toInt = 0 := by show (0 : Int32).toInt = 0; decide
      rw [z0] at b0 b1
      have eat : h_at rl up st pf rk br (t.toInt - ro.toInt).toNat = (h_secs rl up st pf rk (t.toInt - ro.toInt).toNat (h_0 0 br)).1 := rfl
      rw [← eat] at b0 b1
      obtain ⟨w1, w2⟩ := hw
      have hd : (w - h_at rl up st pf rk br (t.toInt - ro.toInt).toNat).toInt = w.toInt - (h_at rl up st pf rk br (t.toInt - ro.toInt).toNat).toInt := ti_sub (by omega) (by omega)
      have hm : (i_max 0 (w - h_at rl up st pf rk br (t.toInt - ro.toInt).toNat)).toInt = (w.toInt - (h_at rl up st pf rk br (t.toInt - ro.toInt).toNat).toInt).toNat := by
        unfold i_max
        by_cases q : 0 < w - h_at rl up st pf rk br (t.toInt - ro.toInt).toNat
        · rw [if_pos q, hd]
          rw [ti_lt, ti_0, hd] at q
          omega
        · rw [if_neg q, ti_0]
          rw [ti_lt, ti_0, hd] at q
          omega
      rw [y_leg_th (k := (w.toInt - (h_at rl up st pf rk br (t.toInt - ro.toInt).toNat).toInt).toNat) 100 0 (fun v _ hv => ?_)]
      · by_cases q : 99 < i_max 0 (w - h_at rl up st pf rk br (t.toInt - ro.toInt).toNat)
        · rw [if_pos q]
          rw [ti_lt, hm, ti_99] at q
          rw [if_neg (by omega : ¬ (w.toInt - (h_at rl up st pf rk br (t.toInt - ro.toInt).toNat).toInt).toNat ≤ 0), if_neg (by omega)]
        · rw [if_neg q]
          rw [ti_lt, hm, ti_99] at q
          by_cases y : (w.toInt - (h_at rl up st pf rk br (t.toInt - ro.toInt).toNat).toInt).toNat ≤ 0
          · rw [if_pos y, if_pos (by omega)]
            apply ti_eq.mpr
            rw [hm, nI_0, ti_0]; omega
          · rw [if_neg y, if_pos (by omega)]
            apply ti_eq.mpr
            rw [hm, ti_nI (by omega)]
      · show h_in rl up st pf rk w ro (nI v) br ≤ t ↔ _
        rw [hle v (by omega), h_at_ah, ti_le, ti_le, ti_add (by rw [ti_nI (by omega)]; omega) (by rw [ti_nI (by omega)]; omega), ti_nI (by omega)]
        omega
theorem r_secs_h (n : Nat) : ∀ ρ : mRow, wi (ρ 10) 0 60 → wi (ρ 7) 0 5 → (ρ 2 = 0 ∨ ρ 2 = 1) → r_t (r_secs n ρ) = h_secs (ρ 2) (ρ 4) (ρ 6) (ρ 7) (ρ 8) n (r_t ρ) ∧ ∀ j, j < 9 → r_secs n ρ j = ρ j := by
  induction n with
  | zero => intro ρ _ _ _; exact ⟨rfl, fun _ _ => rfl⟩
  | succ n ih =>
    intro ρ hb hp hr
    have e := r_sec_h hb hp hr
    obtain ⟨a, b⟩ := ih (r_sec ρ) (by
        have := h_s_b (rl := ρ 2) (up := ρ 4) (st := ρ 6) (rk := ρ 8) (s := r_t ρ) hb hp
        rw [← e] at this
        exact this) (by rw [r_sec_p ρ (by omega)]; exact hp) (by rw [r_sec_p ρ (by omega)]; exact hr)
    rw [r_sec_p ρ (j := 2) (by omega), r_sec_p ρ (j := 4) (by omega), r_sec_p ρ (j := 6) (by omega), r_sec_p ρ (j := 7) (by omega), r_sec_p ρ (j := 8) (by omega), e] at a
    exact ⟨a, fun j hj => by show r_secs n (r_sec ρ) j = _; rw [b j hj, r_sec_p ρ hj]⟩
/-- stride is 0 .. 20 -/
theorem st_wi {κ a l s : Int32} (hk : isKd κ) (ha : wi a 0 9) (hl : wi l 0 9) (hs : wi s 0 20) : wi (k_stride κ a l s) 0 20 := by
  obtain ⟨a0, a9⟩ := ha
  obtain ⟨l0, l9⟩ := hl
  obtain ⟨s0, s9⟩ := hs
  have mx : ∀ x : Int32, x.toInt ≤ 20 → wi (k_max1 x) 0 20 := fun x hx => by
    unfold k_max1
    split
    · exact ⟨by decide, by decide⟩
    · rename_i z; rw [ti_lt, ti_1] at z; exact ⟨by omega, hx⟩
  have e1 : (l - 1).toInt = l.toInt - 1 := by rw [ti_sub (by rw [ti_1]; omega) (by rw [ti_1]; omega), ti_1]
  have e2 : (l + 2).toInt = l.toInt + 2 := by rw [ti_add (by rw [ti_2]; omega) (by rw [ti_2]; omega), ti_2]
  have e3 : (l + 1).toInt = l.toInt + 1 := by rw [ti_add (by rw [ti_1]; omega) (by rw [ti_1]; omega), ti_1]
  have e4 : (l + 1 - s).toInt = l.toInt + 1 - s.toInt := by rw [ti_sub (by rw [e3]; omega) (by rw [e3]; omega), e3]
  have e5 : (l + a).toInt = l.toInt + a.toInt := ti_add (by omega) (by omega)
  have e6 : (l - s).toInt = l.toInt - s.toInt := ti_sub (by omega) (by omega)
  have e7 : wi ((l + 1) / 2) 0 20 := by
    have h10 : l = 0 ∨ l = 1 ∨ l = 2 ∨ l = 3 ∨ l = 4 ∨ l = 5 ∨ l = 6 ∨ l = 7 ∨ l = 8 ∨ l = 9 := by
      simp only [ti_eq, show (0 : Int32).toInt = 0 from by decide, show (1 : Int32).toInt = 1 from by decide, show (2 : Int32).toInt = 2 from by decide, show (3 : Int32).toInt = 3 from by decide, show (4 : Int32).toInt = 4 from by decide, show (5 : Int32).toInt = 5 from by decide, show (6 : Int32).toInt = 6 from by decide, show (7 : Int32).toInt = 7 from by decide, show (8 : Int32).toInt = 8 from by decide, show (9 : Int32).toInt = 9 from by decide]
      omega
    rcases h10 with rfl | rfl | rfl | rfl | rfl | rfl | rfl | rfl | rfl | rfl <;> exact ⟨by decide, by decide⟩
  rcases hk with rfl | rfl | rfl | rfl | rfl | rfl | rfl
  · exact ⟨l0, by show l.toInt ≤ 20; omega⟩
  · exact mx _ (by omega)
  · show wi (l + 2) 0 20; unfold wi; rw [e2]; omega
  · exact e7
  · exact mx _ (by omega)
  · show wi (l + a) 0 20; unfold wi; rw [e5]; omega
  · exact mx _ (by omega)
end P89
