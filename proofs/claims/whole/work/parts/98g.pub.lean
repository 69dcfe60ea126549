/-! PUBLIC METHODS: race, summer: the first of the reference -/
section P98g
variable {I C J K : pI} {L : pL} {N S : Nat}

theorem x_lst_inv (T : Nat → Int32) (n : Nat) : n ≤ 9 → (x_lst 999 T n).2 ≤ 999 ∧ ((x_lst 999 T n).1 = -1 → (x_lst 999 T n).2 = 999) ∧ (¬ (x_lst 999 T n).1 = -1 → ∃ f, f < n ∧ (x_lst 999 T n).1 = nI f ∧ (x_lst 999 T n).2 = T f) := by
  induction n with
  | zero => intro _; exact ⟨Int32.le_refl _, fun _ => rfl, fun h => absurd rfl h⟩
  | succ n ih =>
    intro hn
    obtain ⟨h1, h2, h3⟩ := ih (by omega)
    by_cases z : (x_lst 999 T n).2 ≤ T n
    · rw [x_lst_f z]
      exact ⟨h1, h2, fun q => by obtain ⟨f, f1, f2, f3⟩ := h3 q; exact ⟨f, by omega, f2, f3⟩⟩
    · rw [x_lst_t z]
      refine ⟨Int32.le_trans (Int32.le_of_lt (Int32.not_le.mp z)) h1, fun q => ?_, fun _ => ⟨n, by omega, rfl, rfl⟩⟩
      exact absurd q (by show ¬ nI n = -1; intro w; have := congrArg Int32.toInt w; rw [ti_nI (by omega), ti_n1] at this; omega)

set_option maxHeartbeats 400000 in
theorem lp_r232 (d : Nat) (v : vN I N S) {r : Int32} {t : yT} (hR : rR I r C N t J) {Q : Option Value → mm_M → Prop} (hcont : gP mm_cs0 (d + 7) 9 false (some .int) cX9_raced 280 [some (.ref 108), some (.int (x_lst 999 t.2.1 N).1), some (.int (nI N))] [] (mm_sh, mm_R, J, L) Q) : ∀ (n i : Nat) , i + n = N → gP mm_cs0 (d + 7) 9 false (some .int) cX9_raced 232 [some (.ref 108), some (.int (x_lst 999 t.2.1 i).1), some (.int (nI i))] [] (mm_sh, mm_R, J, L) Q := by
  intro n
  induction n with
  | zero =>
    intro i  hi
    obtain rfl : i = N := by omega
    have hN8 := v.1
    have zq0 : J 108 0 = nI i := by rw [hR.1.r (by omega), uI_j _ _ _ (by decide) (by decide)]; exact v.2.2.1
    have hc1 : nI i ≤ nI i := Int32.le_refl _
    refine gp_iload_n dX9_raced_232 rfl ?_
    refine gp_aload_n dX9_raced_233 rfl ?_
    refine gp_giv dX9_raced_234 mf_9_117 (by decide) (by first | rfl | assumption | (simp only [*]; done)) (by first | exact zq0 | exact rfl) ?_
    refine gp_icc (t := 280) dX9_raced_237 (by decide) c2_ge (fun h1 => ?_) (fun h1 => ?_)
    · have h1' := Int32.not_lt.mpr h1
      exact hcont
    · exact absurd hc1 h1
  | succ n ih =>
    intro i  hi
    have hN8 := v.1
    have zq0 : J 108 0 = nI N := by rw [hR.1.r (by omega), uI_j _ _ _ (by decide) (by decide)]; exact v.2.2.1
    have hc1 : ¬ nI N ≤ nI i := nI_ge (by omega) (by omega)
    have zqi : mm_in (nI i) 8 = true := v.in8 (ch_n v (show i < N by omega))
    have zqT : J 136 (nI i).toNatClampNeg = t.2.1 i := by rw [nI_clamp (by omega)]; exact (hR.2 i (by omega)).2.2.2
    obtain ⟨zle, zm, zi⟩ := x_lst_inv t.2.1 i (by omega)
    have zinv : ¬ (x_lst 999 t.2.1 i).1 = -1 → mm_in (x_lst 999 t.2.1 i).1 8 = true ∧ J 136 (x_lst 999 t.2.1 i).1.toNatClampNeg = (x_lst 999 t.2.1 i).2 := fun q => by
      obtain ⟨f, f1, f2, f3⟩ := zi q
      rw [f2, f3]
      exact ⟨v.in8 (ch_n v (show f < N by omega)), by rw [nI_clamp (by omega)]; exact (hR.2 f (by omega)).2.2.2⟩
    have ih' := ih (i + 1) (by omega)
    have kF : x_lst 999 t.2.1 (i + 1) = x_lst 999 t.2.1 i → gP mm_cs0 (d + 7) 9 false (some .int) cX9_raced 232 [some (.ref 108), some (.int (x_lst 999 t.2.1 i).1), some (.int (nI i + 1))] [] (mm_sh, mm_R, J, L) Q := fun e => by
      rw [e] at ih'
      rw [nI_1]
      exact ih'
    have kT : x_lst 999 t.2.1 (i + 1) = (nI i, t.2.1 i) → gP mm_cs0 (d + 7) 9 false (some .int) cX9_raced 232 [some (.ref 108), some (.int (nI i)), some (.int (nI i + 1))] [] (mm_sh, mm_R, J, L) Q := fun e => by
      rw [e] at ih'
      rw [nI_1]
      exact ih'
    refine gp_iload_n dX9_raced_232 rfl ?_
    refine gp_aload_n dX9_raced_233 rfl ?_
    refine gp_giv dX9_raced_234 mf_9_117 (by decide) (by first | rfl | assumption | (simp only [*]; done)) (by first | exact zq0 | exact rfl) ?_
    refine gp_icc (t := 280) dX9_raced_237 (by decide) c2_ge (fun h1 => ?_) (fun h1 => ?_)
    · exact absurd h1 hc1
    · have h1' := Int32.not_le.mp h1
      refine gp_aload_n dX9_raced_240 rfl ?_
      refine gp_gr dX9_raced_241 mf_9_111 rfl (by first | rfl | assumption | (simp only [*]; done)) (by first | rfl | assumption | (simp only [*]; done)) ?_
      refine gp_iload_n dX9_raced_244 rfl ?_
      refine gp_ialv dX9_raced_245 rfl (by first | rfl | assumption | (simp only [*]; done)) zqi zqT ?_
      refine gp_pu (st' := .int (999) :: _) dX9_raced_246 rfl ?_
      refine gp_icc (t := 274) dX9_raced_249 (by decide) c2_ge (fun h2 => ?_) (fun h2 => ?_)
      · have h2' := Int32.not_lt.mpr h2
        refine gp_iinc (v := (1)) (ls' := [some (.ref _), some (.int _), some (.int _)]) dX9_raced_274 rfl (by decide) rfl ?_
        refine gp_goto (t := 232) dX9_raced_277 (by decide) ?_
        first | exact kF (x_lst_f (Int32.le_trans zle h2)) | exact kT (x_lst_t (by rw [zm h3]; exact h2)) | exact kF (x_lst_f h4) | exact kT (x_lst_t h4)
      · have h2' := Int32.not_le.mp h2
        refine gp_iload_n dX9_raced_252 rfl ?_
        refine gp_pu (st' := .int (-1) :: _) dX9_raced_253 rfl ?_
        refine gp_icc (t := 272) dX9_raced_254 (by decide) c2_eq (fun h3 => ?_) (fun h3 => ?_)
        · refine gp_iload_n dX9_raced_272 rfl ?_
          refine gp_istore_n (ls' := [some (.ref _), some (.int _), some (.int _)]) dX9_raced_273 rfl (Nat.le_of_ble_eq_true rfl) ?_
          refine gp_iinc (v := (1)) (ls' := [some (.ref _), some (.int _), some (.int _)]) dX9_raced_274 rfl (by decide) rfl ?_
          refine gp_goto (t := 232) dX9_raced_277 (by decide) ?_
          first | exact kF (x_lst_f (Int32.le_trans zle h2)) | exact kT (x_lst_t (by rw [zm h3]; exact h2)) | exact kF (x_lst_f h4) | exact kT (x_lst_t h4)
        · refine gp_aload_n dX9_raced_257 rfl ?_
          refine gp_gr dX9_raced_258 mf_9_111 rfl (by first | rfl | assumption | (simp only [*]; done)) (by first | rfl | assumption | (simp only [*]; done)) ?_
          refine gp_iload_n dX9_raced_261 rfl ?_
          refine gp_ialv dX9_raced_262 rfl (by first | rfl | assumption | (simp only [*]; done)) zqi zqT ?_
          refine gp_aload_n dX9_raced_263 rfl ?_
          refine gp_gr dX9_raced_264 mf_9_111 rfl (by first | rfl | assumption | (simp only [*]; done)) (by first | rfl | assumption | (simp only [*]; done)) ?_
          refine gp_iload_n dX9_raced_267 rfl ?_
          refine gp_ialv dX9_raced_268 rfl (by first | rfl | assumption | (simp only [*]; done)) (zinv h3).1 (zinv h3).2 ?_
          refine gp_icc (t := 274) dX9_raced_269 (by decide) c2_ge (fun h4 => ?_) (fun h4 => ?_)
          · have h4' := Int32.not_lt.mpr h4
            refine gp_iinc (v := (1)) (ls' := [some (.ref _), some (.int _), some (.int _)]) dX9_raced_274 rfl (by decide) rfl ?_
            refine gp_goto (t := 232) dX9_raced_277 (by decide) ?_
            first | exact kF (x_lst_f (Int32.le_trans zle h2)) | exact kT (x_lst_t (by rw [zm h3]; exact h2)) | exact kF (x_lst_f h4) | exact kT (x_lst_t h4)
          · have h4' := Int32.not_le.mp h4
            refine gp_iload_n dX9_raced_272 rfl ?_
            refine gp_istore_n (ls' := [some (.ref _), some (.int _), some (.int _)]) dX9_raced_273 rfl (Nat.le_of_ble_eq_true rfl) ?_
            refine gp_iinc (v := (1)) (ls' := [some (.ref _), some (.int _), some (.int _)]) dX9_raced_274 rfl (by decide) rfl ?_
            refine gp_goto (t := 232) dX9_raced_277 (by decide) ?_
            first | exact kF (x_lst_f (Int32.le_trans zle h2)) | exact kT (x_lst_t (by rw [zm h3]; exact h2)) | exact kF (x_lst_f h4) | exact kT (x_lst_t h4)
end P98g
