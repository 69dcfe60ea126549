/-! PUBLIC METHODS: summer: the state after n races -/
section P98o
variable {I C J K G : pI} {L : pL} {N S : Nat}

/-- what a race leaves, of both sides -/
def y_sG (N : Nat) (G : pI) : pI := mg (uY G (G 108 7 + 1) (y_rz G N (G 108 8)).2.2 (y_rw G N (G 108 8))) (uX G (G 108 7 + 1) (y_rz G N (G 108 8)).2.2 (y_rw G N (G 108 8)))
/-- how often c won in n races from G on, s before; the state behind them -/
def y_sm (N : Nat) (c : Int32) : Nat → pI → Int32 → Int32 × pI
  | 0, G, s => (s, G)
  | n + 1, G, s => y_sm N c n (y_sG N G) (if y_rw G N (G 108 8) = c then s + 1 else s)
theorem y_sm_t {c s : Int32} {n : Nat} (h : y_rw G N (G 108 8) = c) : y_sm N c (n + 1) G s = y_sm N c n (y_sG N G) (s + 1) := by rw [y_sm, if_pos h]
theorem y_sm_f {c s : Int32} {n : Nat} (h : ¬ y_rw G N (G 108 8) = c) : y_sm N c (n + 1) G s = y_sm N c n (y_sG N G) s := by rw [y_sm, if_neg h]
theorem bR_sG (hb : bR G N S) : bR (y_sG N G) N S := by
  have hw := y_rw_in hb.1 (G 108 8)
  have hF := rF_race hb (r := G 108 7 + 1) (sd := (y_rz G N (G 108 8)).2.2) hw
  have hv : vN (uX G (G 108 7 + 1) (y_rz G N (G 108 8)).2.2 (y_rw G N (G 108 8))) N S := by
    have p : ∀ a j, a ≠ 115 → (a = 108 → j ≠ 7 ∧ j ≠ 8) → uX G (G 108 7 + 1) (y_rz G N (G 108 8)).2.2 (y_rw G N (G 108 8)) a j = G a j := fun a j h1 h2 => by
      rw [uX_i, if_neg (fun q => (h2 q.1).2 q.2), if_neg (fun q => (h2 q.1).1 q.2), if_neg (fun q => h1 q.2.1)]
    have := hb.1
    generalize uX G (G 108 7 + 1) (y_rz G N (G 108 8)).2.2 (y_rw G N (G 108 8)) = U at *
    unfold vN at *
    simp only [p 108 0 (by decide) (fun _ => by decide), p 108 1 (by decide) (fun _ => by decide), p 108 2 (by decide) (fun _ => by decide), p 108 3 (by decide) (fun _ => by decide), p 108 4 (by decide) (fun _ => by decide), p 108 5 (by decide) (fun _ => by decide), p 108 6 (by decide) (fun _ => by decide), fun c => p 110 c (by decide) (fun q => absurd q (by decide)), fun c => p 111 c (by decide) (fun q => absurd q (by decide)), fun c => p 112 c (by decide) (fun q => absurd q (by decide)), fun c => p 113 c (by decide) (fun q => absurd q (by decide)), fun c => p 114 c (by decide) (fun q => absurd q (by decide)), fun c => p 116 c (by decide) (fun q => absurd q (by decide)), fun c => p 117 c (by decide) (fun q => absurd q (by decide))]
    exact this
  refine ⟨hv.cg fun k j q => ?_, hF.cg (fun k a b j => ?_) (fun k j q => ?_)⟩
  · unfold y_sG; rw [mg_r _ _ (by rcases q with q | q <;> omega)]
  · unfold y_sG; rw [mg_c _ _ (by omega)]
  · unfold y_sG; rw [mg_r _ _ (by rcases q with q | q <;> omega)]
theorem RR_sG (h : RR G L) (hb : bR G N S) : RR (y_sG N G) L := RR_race h hb (y_rw_in hb.1 _)
theorem sm_all {c : Int32} (n : Nat) : ∀ (G : pI) (s : Int32), RR G L → bR G N S → RR (y_sm N c n G s).2 L ∧ bR (y_sm N c n G s).2 N S := by
  induction n with
  | zero => intro G s h hb; exact ⟨h, hb⟩
  | succ n ih => intro G s h hb; exact ih _ _ (RR_sG h hb) (bR_sG hb)
theorem mR_sG (h : mR (uX G (G 108 7 + 1) (y_rz G N (G 108 8)).2.2 (y_rw G N (G 108 8))) C J) : mR (y_sG N G) C J := by
  refine ⟨fun k j z => ?_, h.2⟩
  rw [h.1 k j z]
  rw [Bool.and_eq_true] at z
  have := Nat.le_of_ble_eq_true z.1
  unfold y_sG
  rw [mg_r _ _ this]
/-- the class's cells are G's but for scratch -/
theorem sG_g (hs : sc (mg G I) J) {k j : Nat} (hk : k < 108) (z : scr k j = false) : J k j = G k j := (hs k j z).trans (congrFun (mg_c _ _ hk) j)
theorem sG_fOk (hb : bR G N S) (hs : sc (mg G I) J) : fOk J N := by
  have f := hb.fOk (sc.rf G)
  refine ⟨f.1, ?_, ?_, ?_, fun c hc => ?_⟩
  · rw [sG_g hs (by decide) rfl]; exact f.2.1
  · rw [sG_g hs (by decide) rfl]; exact f.2.2.1
  · rw [sG_g hs (by decide) rfl]; exact f.2.2.2.1
  · have h8 : c < 8 := by have := hb.n.1; omega
    rw [sG_g hs (by omega) (scr_c h8 0).1]; exact f.2.2.2.2 c hc
theorem sG_cF (hb : bR G N S) (hs : sc (mg G I) J) : cF G N S J := by
  obtain ⟨f1, f2, f3, f4, f5, f6⟩ := hb.cF
  refine ⟨?_, ?_, ?_, fun w hw => ?_, fun c hc j hj => ?_, fun k hk j hj => ?_⟩
  · rw [sG_g hs (by decide) rfl]; exact f1
  · rw [sG_g hs (by decide) rfl]; exact f2
  · rw [sG_g hs (by decide) rfl]; exact f3
  · rw [sG_g hs (by decide) rfl]; exact f4 w hw
  · rw [sG_g hs (by omega) (scr_c hc j).1]; exact f5 c hc j hj
  · rw [sG_g hs (by omega) (scr_c hk j).2.1]; exact f6 k hk j hj
theorem sG_w (hb : bR G N S) (h0 : 0 < N) (hs : sc (mg G I) J) : x_rcF J N = y_rw G N (G 108 8) := by
  rw [x_rcF_g hb.1 h0 (sG_cF hb hs), sG_g hs (by decide) rfl, hb.2.2.2.2.2.1]
theorem sG_s (hb : bR G N S) (h0 : 0 < N) (hs : sc (mg G I) J) : sc (mg (y_sG N G) I) (x_rcM J N) := by
  have hw := y_rw_in hb.1 (G 108 8)
  have e7 : J 1 7 = G 108 8 := by rw [sG_g hs (by decide) rfl, hb.2.2.2.2.2.1]
  have e6 : J 1 6 = G 108 7 := by rw [sG_g hs (by decide) rfl, hb.2.2.2.2.1]
  intro k j z
  rw [x_rcM_g hb.1 h0 (sG_cF hb hs) k j (scr_92 z), e7, e6]
  by_cases q : k < 108
  · rw [mg_c _ _ q]
    unfold y_sG
    rw [mg_c _ _ q]
    unfold uY
    by_cases u1 : k = 1 ∧ j = 6
    · rw [if_pos u1, if_pos u1]
    · rw [if_neg u1, if_neg u1]
      by_cases u2 : k = 1 ∧ j = 7
      · rw [if_pos u2, if_pos u2]
      · rw [if_neg u2, if_neg u2]
        by_cases u3 : ¬ y_rw G N (G 108 8) = -1 ∧ k = 5 + (y_rw G N (G 108 8)).toNatClampNeg ∧ j = 5
        · have hw8 : (y_rw G N (G 108 8)).toNatClampNeg < 8 := hw.resolve_left u3.1
          rw [if_pos u3, if_pos u3, sG_g hs q (by rw [u3.2.1]; exact (scr_c hw8 5).1)]
        · rw [if_neg u3, if_neg u3, sG_g hs q z]
  · rw [mg_r _ _ (by omega), if_neg (by omega), if_neg (by omega), if_neg]
    · have := hs k j z
      rw [mg_r _ _ (by omega)] at this
      exact this
    · rintro ⟨q0, q1, q2⟩
      rcases hw with hw | hw
      · exact q0 hw
      · omega

def w_su (N : Nat) (n c : Int32) : Int32 := if ¬ (0 ≤ c ∧ c < nI N) then -1 else if n < 1 ∨ 30 < n then -6 else 0
theorem w_su_w (N : Nat) (n c : Int32) : w_su N n c = 0 ∨ isW (w_su N n c) := by unfold w_su; (repeat' split) <;> first | exact Or.inl rfl | (right; unfold isW; decide)
theorem w_su_0 {n c : Int32} (h : w_su N n c = 0) : (0 ≤ c ∧ c < nI N) ∧ wi n 1 30 := by
  unfold w_su at h
  by_cases a : 0 ≤ c ∧ c < nI N
  · by_cases b : n < 1 ∨ 30 < n
    · rw [if_neg (fun z => z a), if_pos b] at h; exact absurd h (by decide)
    · refine ⟨a, ?_⟩
      have e30 : (30 : Int32).toInt = 30 := by decide
      simp only [ti_lt, ti_1, e30] at b
      unfold wi
      omega
  · rw [if_pos a] at h; exact absurd h (by decide)
theorem su_n {n : Int32} (h : wi n 1 30) : n = nI n.toNatClampNeg ∧ n.toNatClampNeg ≤ 30 := by
  have h1 := h.1
  have h2 := h.2
  refine ⟨(nI_cl (by rw [ti_le, ti_0]; omega)).symm, ?_⟩
  unfold Int32.toNatClampNeg
  omega

set_option maxHeartbeats 400000 in
theorem lp_csum (d : Nat) {c : Int32} {M : Nat} (hM : M ≤ 30) (h0 : 0 < N) : ∀ (n i : Nat) (G J : pI) (s : Int32), i + n = M → bR G N S → sc (mg G I) J → gP mm_cs0 (d + 5) 8 false (some .int) cX8_summer 40 [some (.ref 0), some (.int (nI M)), some (.int c), some (.int s), some (.int (nI i))] [] (mm_sh, mm_R, J, L) (pX (some (.int (y_sm N c n G s).1)) L (sc (mg (y_sm N c n G s).2 I))) := by
  intro n
  induction n with
  | zero =>
    intro i G J s hi hbG hsJ
    obtain rfl : i = M := by omega
    have hc1 : nI i ≤ nI i := Int32.le_refl _
    refine gp_iload dX8_summer_40 rfl ?_
    refine gp_iload_n dX8_summer_42 rfl ?_
    refine gp_icc (t := 63) dX8_summer_43 (by decide) c2_ge (fun h1 => ?_) (fun h1 => ?_)
    · have h1' := Int32.not_lt.mpr h1
      refine gp_iload_n dX8_summer_63 rfl ?_
      refine gp_iret dX8_summer_64 rfl ?_
      exact pX.mk rfl hsJ
    · exact absurd hc1 h1
  | succ n ih =>
    intro i G J s hi hbG hsJ
    have hc1 : ¬ nI M ≤ nI i := nI_ge (by omega) (by omega)
    have zqw := sG_w hbG h0 hsJ
    refine gp_iload dX8_summer_40 rfl ?_
    refine gp_iload_n dX8_summer_42 rfl ?_
    refine gp_icc (t := 63) dX8_summer_43 (by decide) c2_ge (fun h1 => ?_) (fun h1 => ?_)
    · exact absurd h1 hc1
    · have h1' := Int32.not_le.mp h1
      (try simp only [zqw, Classical.not_not] at h1)
      refine gp_aload_n dX8_summer_46 rfl ?_
      refine gp_call (kind := 1) (args := [.ref _]) (rest := _) dX8_summer_47 (Or.inr (Or.inl ⟨rfl, rfl⟩)) mk_8_337 (by decide) me_123 rfl rfl rfl rfl rfl (mm_rc_of (by first | rfl | assumption | (simp only [*]; done))) (ok_X8_raceInTruth _ J L N (sG_fOk hbG hsJ)) rfl ?_
      refine gp_iload_n dX8_summer_50 rfl ?_
      refine gp_icc (t := 57) dX8_summer_51 (by decide) c2_ne (fun h2 => ?_) (fun h2 => ?_)
      · (try simp only [zqw, Classical.not_not] at h2)
        refine gp_iinc (v := (1)) (ls' := [some (.ref _), some (.int _), some (.int _), some (.int _), some (.int _)]) dX8_summer_57 rfl (by decide) rfl ?_
        refine gp_goto (t := 40) dX8_summer_60 (by decide) ?_
        (rw [nI_1]
         first | (rw [y_sm_t h2]; exact ih (i + 1) _ _ _ (by omega) (bR_sG hbG) (sG_s hbG h0 hsJ)) | (rw [y_sm_f h2]; exact ih (i + 1) _ _ _ (by omega) (bR_sG hbG) (sG_s hbG h0 hsJ)))
      · (try simp only [zqw, Classical.not_not] at h2)
        refine gp_iinc (v := (1)) (ls' := [some (.ref _), some (.int _), some (.int _), some (.int _), some (.int _)]) dX8_summer_54 rfl (by decide) rfl ?_
        refine gp_iinc (v := (1)) (ls' := [some (.ref _), some (.int _), some (.int _), some (.int _), some (.int _)]) dX8_summer_57 rfl (by decide) rfl ?_
        refine gp_goto (t := 40) dX8_summer_60 (by decide) ?_
        (rw [nI_1]
         first | (rw [y_sm_t h2]; exact ih (i + 1) _ _ _ (by omega) (bR_sG hbG) (sG_s hbG h0 hsJ)) | (rw [y_sm_f h2]; exact ih (i + 1) _ _ _ (by omega) (bR_sG hbG) (sG_s hbG h0 hsJ)))

set_option maxHeartbeats 400000 in
theorem lp_msum (d : Nat) {c : Int32} {M : Nat} (hM : M ≤ 30) : ∀ (n i : Nat) (G J : pI) (s : Int32), i + n = M → bR G N S → mR G C J → gP mm_cs0 (d + 8) 9 false (some .int) cX9_summer 37 [some (.ref 108), some (.int (nI M)), some (.int c), some (.int s), some (.int (nI i))] [] (mm_sh, mm_R, J, L) (pX (some (.int (y_sm N c n G s).1)) L (mR (y_sm N c n G s).2 C)) := by
  intro n
  induction n with
  | zero =>
    intro i G J s hi hbG hsJ
    obtain rfl : i = M := by omega
    have hc1 : nI i ≤ nI i := Int32.le_refl _
    refine gp_iload dX9_summer_37 rfl ?_
    refine gp_iload_n dX9_summer_39 rfl ?_
    refine gp_icc (t := 60) dX9_summer_40 (by decide) c2_ge (fun h1 => ?_) (fun h1 => ?_)
    · have h1' := Int32.not_lt.mpr h1
      refine gp_iload_n dX9_summer_60 rfl ?_
      refine gp_iret dX9_summer_61 rfl ?_
      exact pX.mk rfl hsJ
    · exact absurd hc1 h1
  | succ n ih =>
    intro i G J s hi hbG hsJ
    have hc1 : ¬ nI M ≤ nI i := nI_ge (by omega) (by omega)
    refine gp_iload dX9_summer_37 rfl ?_
    refine gp_iload_n dX9_summer_39 rfl ?_
    refine gp_icc (t := 60) dX9_summer_40 (by decide) c2_ge (fun h1 => ?_) (fun h1 => ?_)
    · exact absurd h1 hc1
    · have h1' := Int32.not_le.mp h1
      (try simp only [Classical.not_not] at h1)
      refine gp_aload_n dX9_summer_43 rfl ?_
      refine gp_callX (kind := 1) (args := [.ref _]) (rest := _) dX9_summer_44 (Or.inr (Or.inl ⟨rfl, rfl⟩)) mk_9_343 (by decide) me_208 rfl rfl rfl rfl rfl (mm_rc_of (by first | rfl | assumption | (simp only [*]; done))) (md_raced _ hbG.1 hsJ) ?_
      intro K1 hK1
      refine gp_iload_n dX9_summer_47 rfl ?_
      refine gp_icc (t := 54) dX9_summer_48 (by decide) c2_ne (fun h2 => ?_) (fun h2 => ?_)
      · (try simp only [Classical.not_not] at h2)
        refine gp_iinc (v := (1)) (ls' := [some (.ref _), some (.int _), some (.int _), some (.int _), some (.int _)]) dX9_summer_54 rfl (by decide) rfl ?_
        refine gp_goto (t := 37) dX9_summer_57 (by decide) ?_
        (rw [nI_1]
         first | (rw [y_sm_t h2]; exact ih (i + 1) _ _ _ (by omega) (bR_sG hbG) (mR_sG hK1)) | (rw [y_sm_f h2]; exact ih (i + 1) _ _ _ (by omega) (bR_sG hbG) (mR_sG hK1)))
      · (try simp only [Classical.not_not] at h2)
        refine gp_iinc (v := (1)) (ls' := [some (.ref _), some (.int _), some (.int _), some (.int _), some (.int _)]) dX9_summer_51 rfl (by decide) rfl ?_
        refine gp_iinc (v := (1)) (ls' := [some (.ref _), some (.int _), some (.int _), some (.int _), some (.int _)]) dX9_summer_54 rfl (by decide) rfl ?_
        refine gp_goto (t := 37) dX9_summer_57 (by decide) ?_
        (rw [nI_1]
         first | (rw [y_sm_t h2]; exact ih (i + 1) _ _ _ (by omega) (bR_sG hbG) (mR_sG hK1)) | (rw [y_sm_f h2]; exact ih (i + 1) _ _ _ (by omega) (bR_sG hbG) (mR_sG hK1)))
end P98o
