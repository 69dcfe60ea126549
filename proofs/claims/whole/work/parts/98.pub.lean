/-! PUBLIC METHODS: race, summer: the race of the class -/
section P98
variable {I C J : pI} {L : pL} {N S : Nat}

theorem y_rr_id {i : Nat} {t : yT} (h : ∀ c, c < N → I 108 2 ≤ (t.1 c).1) (n : Nat) (hn : n ≤ N) : y_rr I i n t = t := by
  induction n with
  | zero => rfl
  | succ n ih => rw [y_rr, ih (by omega)]; exact if_pos (h n (by omega))
theorem y_ra_id {t : yT} (h : ∀ c, c < N → I 108 2 ≤ (t.1 c).1) (n : Nat) : ∀ i, y_ra I N n i t = t := by
  induction n with
  | zero => intro i; rfl
  | succ n ih => intro i; rw [y_ra, y_rr_id h N (Nat.le_refl N)]; exact ih _
theorem nI_le0 {h : Nat} (hh : h ≤ 8) : nI h ≤ 0 ↔ h = 0 := by
  rw [ti_le, ti_0, ti_nI (by omega)]
  omega
theorem x_rt_g (v : vN I N S) (n : Nat) : ∀ (i h : Nat) (M : pI) (t : yT), h ≤ 8 → (∀ c, c < N → rwI I c i (M (92 + 2 * c)) (t.1 c) (t.2.1 c)) → M 1 7 = t.2.2 → (h = 0 → ∀ c, c < N → I 108 2 ≤ (t.1 c).1) →
    (∀ c, c < N → r_time (x_rt N n M (nI h) (92 + 2 * c)) = (y_ra I N n (i + 1) t).2.1 c) ∧ x_rt N n M (nI h) 1 7 = (y_ra I N n (i + 1) t).2.2 ∧ (∀ k, k ≠ 1 → k < 92 ∨ 107 < k → x_rt N n M (nI h) k = M k) ∧ ∀ j, j ≠ 7 → x_rt N n M (nI h) 1 j = M 1 j := by
  have hN8 := v.1
  induction n with
  | zero => intro i h M t _ hr hs _; exact ⟨fun c hc => (hr c hc).time, hs, fun _ _ _ => rfl, fun _ _ => rfl⟩
  | succ n ih =>
    intro i h M t hh hr hs hf
    rw [x_rt]
    by_cases z : h = 0
    · rw [if_pos ((nI_le0 hh).mpr z), y_ra_id (hf z)]
      exact ⟨fun c hc => (hr c hc).time, hs, fun _ _ _ => rfl, fun _ _ => rfl⟩
    · rw [if_neg (fun q => z ((nI_le0 hh).mp q))]
      obtain ⟨K, g, k1, k2, k3, k4, k5, k6, k7⟩ := se_rr v i hr hs N (Nat.le_refl N)
      rw [k1]
      obtain ⟨a1, a2, a3, a4⟩ := ih (i + 1) g K (y_rr I (i + 1) N t) (by omega) (fun c hc => by have := k3 c hc; rw [if_pos hc] at this; exact this) k4 (fun q => by obtain ⟨q1, q2⟩ := k5 q; rw [q1]; exact q2)
      exact ⟨a1, a2, fun k q1 q2 => by rw [a3 k q1 q2, k6 k q1 q2], fun j hj => by rw [a4 j hj, k7 j hj]⟩
theorem x_rb_o2 (M : pI) (n : Nat) (hn : n ≤ 8) {k : Nat} (h : k < 92 ∨ 107 < k) : x_rb M n k = M k := by
  induction n with
  | zero => rfl
  | succ n ih => rw [x_rb, x_rbS, nI_clamp (by omega), sr_other _ _ (by omega), x_take_k _ _ (by omega) (by omega), ih (by omega)]
/-- the race -/
def y_rz (I : pI) (N : Nat) (sd : Int32) : yT := y_ra I N 999 1 (y_s0 I, y_i0 I, sd)
def y_rw (I : pI) (N : Nat) (sd : Int32) : Int32 := (x_lst 999 (y_rz I N sd).2.1 N).1
theorem x_rcA_g (v : vN I N S) (h0 : 0 < N) {M : pI} (hM : cF I N S M) : (∀ c, c < N → r_time (x_rcA M N (92 + 2 * c)) = (y_rz I N (M 1 7)).2.1 c) ∧ x_rcA M N 1 7 = (y_rz I N (M 1 7)).2.2 ∧ (∀ k, k ≠ 1 → k < 92 ∨ 107 < k → x_rcA M N k = M k) ∧ ∀ j, j ≠ 7 → x_rcA M N 1 j = M 1 j := by
  have hN8 := v.1
  obtain ⟨a1, a2, a3, a4⟩ := x_rt_g v 999 0 N (x_rb M N) (y_s0 I, y_i0 I, M 1 7) hN8 (x_rb_r v hM N hN8) (by rw [x_rb_o2 M N hN8 (by omega)]) (fun q => absurd q (by omega))
  rw [Nat.zero_add] at a1 a2
  unfold x_rcA y_rz
  refine ⟨a1, a2, fun k q1 q2 => ?_, fun j hj => ?_⟩
  · exact (a3 k q1 q2).trans (x_rb_o2 M N hN8 q2)
  · exact (a4 j hj).trans (congrFun (x_rb_o2 M N hN8 (by omega)) j)
theorem x_rcF_g (v : vN I N S) (h0 : 0 < N) {M : pI} (hM : cF I N S M) : x_rcF M N = y_rw I N (M 1 7) := by
  have hN8 := v.1
  obtain ⟨a1, a2, a3, a4⟩ := x_rcA_g v h0 hM
  unfold x_rcF y_rw
  refine congrArg Prod.fst (x_lst_cg N fun i hi => ?_)
  unfold x_fiT x_rcB
  rw [nI_clamp (by omega), sr_other _ _ (by omega)]
  exact a1 i hi
/-- what a race leaves of the class's memory -/
theorem x_rcM_g (v : vN I N S) (h0 : 0 < N) {M : pI} (hM : cF I N S M) (a j : Nat) (ha : a < 92 ∨ 107 < a) : x_rcM M N a j = if a = 1 ∧ j = 6 then M 1 6 + 1 else if a = 1 ∧ j = 7 then (y_rz I N (M 1 7)).2.2 else if ¬ y_rw I N (M 1 7) = -1 ∧ a = 5 + (y_rw I N (M 1 7)).toNatClampNeg ∧ j = 5 then M a 5 + 1 else M a j := by
  have hN8 := v.1
  obtain ⟨a1, a2, a3, a4⟩ := x_rcA_g v h0 hM
  have eF := x_rcF_g v h0 hM
  have eB : ∀ b i, b < 92 ∨ 107 < b → x_rcB M N b i = if b = 1 ∧ i = 6 then M 1 6 + 1 else if b = 1 ∧ i = 7 then (y_rz I N (M 1 7)).2.2 else M b i := fun b i hb => by
    unfold x_rcB
    by_cases z : b = 1
    · rw [z, sr_same]
      by_cases w : i = 6
      · rw [w, up_s, if_pos ⟨rfl, rfl⟩, a4 6 (by decide)]
      · rw [up_o _ _ w, if_neg (fun q => w q.2)]
        by_cases u : i = 7
        · rw [u, if_pos ⟨rfl, rfl⟩]; exact a2
        · rw [if_neg (fun q => u q.2)]; exact a4 i u
    · rw [sr_other _ _ z, if_neg (fun q => z q.1), if_neg (fun q => z q.1)]
      exact congrFun (a3 b z hb) i
  unfold x_rcM
  rw [eF]
  generalize y_rw I N (M 1 7) = w at *
  by_cases z : w = -1
  · rw [if_pos z, eB a j ha]
    by_cases u1 : a = 1 ∧ j = 6
    · rw [if_pos u1, if_pos u1]
    · rw [if_neg u1, if_neg u1]
      by_cases u2 : a = 1 ∧ j = 7
      · rw [if_pos u2, if_pos u2]
      · rw [if_neg u2, if_neg u2, if_neg (fun q => q.1 z)]
  · rw [if_neg z, mm_u_i]
    by_cases u1 : a = 1 ∧ j = 6
    · rw [if_neg (fun q => by omega), if_pos u1, eB a j ha, if_pos u1]
    · rw [if_neg u1]
      by_cases u2 : a = 1 ∧ j = 7
      · rw [if_neg (fun q => by omega), if_pos u2, eB a j ha, if_neg u1, if_pos u2]
      · rw [if_neg u2]
        by_cases u3 : a = 5 + w.toNatClampNeg ∧ j = 5
        · rw [if_pos u3, if_pos ⟨z, u3⟩, ← u3.1, eB a 5 ha, if_neg (by omega), if_neg (by omega)]
        · rw [if_neg u3, if_neg (fun q => u3 q.2), eB a j ha, if_neg u1, if_neg u2]
end P98
