/-! LAYER B: paired writes keep the relation -/
section UPDS
variable {I V : pI} {f : Nat}
theorem mm_u_i (I : pI) (k j a b : Nat) (v : Int32) : mm_u I k j v a b = if a = k ∧ b = j then v else I a b := by
  unfold mm_u
  by_cases h1 : a = k
  · by_cases h2 : b = j
    · rw [if_pos h1, if_pos h2, if_pos ⟨h1, h2⟩]
    · rw [if_pos h1, if_neg h2, if_neg (fun z => h2 z.2)]
  · rw [if_neg h1, if_neg (fun z => h1 z.1)]
theorem rF.ch (h : rF f I V) {c j : Nat} (x : Int32) (hc : c < 8) (hj : j < 6) : rF f (mm_u I (f + 4 + c) j x) (mm_u V (110 + j) c x) := by
  obtain ⟨a1, a2, a3, a4, a5, a6, a7, a8⟩ := h
  refine ⟨?_, ?_, ?_, ?_, ?_, fun w hw => ?_, fun c' hc' j' hj' => ?_, fun k' hk' j' hj' => ?_⟩
  · rw [mm_u_i, mm_u_i, if_neg (by omega), if_neg (by omega)]; exact a1
  · rw [mm_u_i, mm_u_i, if_neg (by omega), if_neg (by omega)]; exact a2
  · rw [mm_u_i, mm_u_i, if_neg (by omega), if_neg (by omega)]; exact a3
  · rw [mm_u_i, mm_u_i, if_neg (by omega), if_neg (by omega)]; exact a4
  · rw [mm_u_i, mm_u_i, if_neg (by omega), if_neg (by omega)]; exact a5
  · rw [mm_u_i, mm_u_i, if_neg (by omega), if_neg (by omega)]; exact a6 w hw
  · rw [mm_u_i, mm_u_i]
    by_cases z : c' = c ∧ j' = j
    · rw [if_pos (by omega), if_pos (by omega)]
    · rw [if_neg (by omega), if_neg (by omega)]; exact a7 c' hc' j' hj'
  · rw [mm_u_i, mm_u_i, if_neg (by omega), if_neg (by omega)]; exact a8 k' hk' j' hj'
theorem rF.sk (h : rF f I V) {c j : Nat} (x : Int32) (hc : c < 8) (hj : j < 2) : rF f (mm_u I (f + 12 + c) j x) (mm_u V (116 + j) c x) := by
  obtain ⟨a1, a2, a3, a4, a5, a6, a7, a8⟩ := h
  refine ⟨?_, ?_, ?_, ?_, ?_, fun w hw => ?_, fun c' hc' j' hj' => ?_, fun k' hk' j' hj' => ?_⟩
  · rw [mm_u_i, mm_u_i, if_neg (by omega), if_neg (by omega)]; exact a1
  · rw [mm_u_i, mm_u_i, if_neg (by omega), if_neg (by omega)]; exact a2
  · rw [mm_u_i, mm_u_i, if_neg (by omega), if_neg (by omega)]; exact a3
  · rw [mm_u_i, mm_u_i, if_neg (by omega), if_neg (by omega)]; exact a4
  · rw [mm_u_i, mm_u_i, if_neg (by omega), if_neg (by omega)]; exact a5
  · rw [mm_u_i, mm_u_i, if_neg (by omega), if_neg (by omega)]; exact a6 w hw
  · rw [mm_u_i, mm_u_i, if_neg (by omega), if_neg (by omega)]; exact a7 c' hc' j' hj'
  · rw [mm_u_i, mm_u_i]
    by_cases z : k' = c ∧ j' = j
    · rw [if_pos (by omega), if_pos (by omega)]
    · rw [if_neg (by omega), if_neg (by omega)]; exact a8 k' hk' j' hj'
theorem rF.tm (h : rF f I V) {w : Nat} (x : Int32) (hw : w < 4) : rF f (mm_u I (f + 3) w x) (mm_u V 108 (2 + w) x) := by
  obtain ⟨a1, a2, a3, a4, a5, a6, a7, a8⟩ := h
  refine ⟨?_, ?_, ?_, ?_, ?_, fun w' hw' => ?_, fun c' hc' j' hj' => ?_, fun k' hk' j' hj' => ?_⟩
  · rw [mm_u_i, mm_u_i, if_neg (by omega), if_neg (by omega)]; exact a1
  · rw [mm_u_i, mm_u_i, if_neg (by omega), if_neg (by omega)]; exact a2
  · rw [mm_u_i, mm_u_i, if_neg (by omega), if_neg (by omega)]; exact a3
  · rw [mm_u_i, mm_u_i, if_neg (by omega), if_neg (by omega)]; exact a4
  · rw [mm_u_i, mm_u_i, if_neg (by omega), if_neg (by omega)]; exact a5
  · rw [mm_u_i, mm_u_i]
    by_cases z : w' = w
    · rw [if_pos (by omega), if_pos (by omega)]
    · rw [if_neg (by omega), if_neg (by omega)]; exact a6 w' hw'
  · rw [mm_u_i, mm_u_i, if_neg (by omega), if_neg (by omega)]; exact a7 c' hc' j' hj'
  · rw [mm_u_i, mm_u_i, if_neg (by omega), if_neg (by omega)]; exact a8 k' hk' j' hj'
theorem rF.fl (h : rF f I V) {p q : Nat} (x : Int32) (hp : (p = 1 ∧ q = 0) ∨ (p = 3 ∧ q = 1) ∨ (p = 5 ∧ q = 6) ∨ (p = 6 ∧ q = 7) ∨ (p = 7 ∧ q = 8)) : rF f (mm_u I f p x) (mm_u V 108 q x) := by
  obtain ⟨a1, a2, a3, a4, a5, a6, a7, a8⟩ := h
  have key : ∀ p' q', ((p' = 1 ∧ q' = 0) ∨ (p' = 3 ∧ q' = 1) ∨ (p' = 5 ∧ q' = 6) ∨ (p' = 6 ∧ q' = 7) ∨ (p' = 7 ∧ q' = 8)) → I f p' = V 108 q' → mm_u I f p x f p' = mm_u V 108 q x 108 q' := by
    intro p' q' h1 h2
    rw [mm_u_i, mm_u_i]
    by_cases z : p' = p
    · rw [if_pos (by omega), if_pos (by omega)]
    · rw [if_neg (by omega), if_neg (by omega)]; exact h2
  refine ⟨key 1 0 (by omega) a1, key 3 1 (by omega) a2, key 5 6 (by omega) a3, key 6 7 (by omega) a4, key 7 8 (by omega) a5, fun w' hw' => ?_, fun c' hc' j' hj' => ?_, fun k' hk' j' hj' => ?_⟩
  · rw [mm_u_i, mm_u_i, if_neg (by omega), if_neg (by omega)]; exact a6 w' hw'
  · rw [mm_u_i, mm_u_i, if_neg (by omega), if_neg (by omega)]; exact a7 c' hc' j' hj'
  · rw [mm_u_i, mm_u_i, if_neg (by omega), if_neg (by omega)]; exact a8 k' hk' j' hj'
theorem RR.now2 {U1 U2 : pI} {L : pL} {N1 S1 : Nat} (h : RR I L) (hv : vN U2 N1 S1) (hF : rF 1 U1 U2) (hm : I 108 0 ≤ U2 108 0) (z : ∀ k, k < 108 → ¬ (1 ≤ k ∧ k ≤ 20) → U1 k = I k) (y : ∀ k, 108 < k → ¬ (110 ≤ k ∧ k ≤ 117) → U2 k = I k) (z9 : U2 108 9 = I 108 9) (z57 : U2 108 57 = I 108 57) (z58 : U2 108 58 = I 108 58) : RR (mg U1 U2) L := by
  refine h.now (J := mg U1 U2) (N1 := N1) (S1 := S1) ⟨hv.cg fun k j q => ?_, hF.cg (fun k a b j => ?_) (fun k j q => ?_)⟩ ?_ (fun k a b c => ?_) ?_ ?_ ?_
  · rw [mg_r _ _ (by rcases q with q | q <;> omega)]
  · rw [mg_c _ _ (by omega)]
  · rw [mg_r _ _ (by rcases q with q | q <;> omega)]
  · rw [mg_r _ _ (by omega : 108 ≤ 108)]; exact hm
  · by_cases q : k < 108
    · rw [mg_c _ _ q]; exact z k q a
    · rw [mg_r _ _ (by omega)]; exact y k (by omega) c
  · rw [mg_r _ _ (by omega : 108 ≤ 108)]; exact z9
  · rw [mg_r _ _ (by omega : 108 ≤ 108)]; exact z57
  · rw [mg_r _ _ (by omega : 108 ≤ 108)]; exact z58
/-- the field that may be, with one number of a child changed -/
theorem vN.ch {N S : Nat} (v : vN V N S) {c j : Nat} {x : Int32} (hj : j < 6) (hx : (j = 0 → wi x 0 6) ∧ (j = 1 → wi x 0 9) ∧ (j = 2 → wi x 0 9) ∧ (j = 3 → x = 0 ∨ (0 ≤ x ∧ x < nI S)) ∧ (j = 4 → wi x 0 99)) : vN (mm_u V (110 + j) c x) N S := by
  obtain ⟨a1, a2, a3, a4, a5, a6, a7, a8, a9, a10, a11⟩ := v
  have e : ∀ i, mm_u V (110 + j) c x 108 i = V 108 i := fun i => mm_u_o _ _ _ _ (by omega)
  refine ⟨a1, a2, by rw [e]; exact a3, by rw [e]; exact a4, by rw [e]; exact a5, by rw [e]; exact a6, by rw [e]; exact a7, by rw [e]; exact a8, by rw [e]; exact a9, fun c' hc' => ?_, fun k hk => ?_⟩
  · obtain ⟨b0, b1, b2, b3, b4⟩ := a10 c' hc'
    refine ⟨?_, ?_, ?_, ?_, ?_⟩
    · rw [mm_u_i]; split
      · rename_i z; exact hx.1 (by omega)
      · exact b0
    · rw [mm_u_i]; split
      · rename_i z; exact hx.2.1 (by omega)
      · exact b1
    · rw [mm_u_i]; split
      · rename_i z; exact hx.2.2.1 (by omega)
      · exact b2
    · rw [mm_u_i]; split
      · rename_i z; exact hx.2.2.2.1 (by omega)
      · exact b3
    · rw [mm_u_i]; split
      · rename_i z; exact hx.2.2.2.2 (by omega)
      · exact b4
  · rw [mm_u_i, if_neg (by omega), mm_u_i, if_neg (by omega)]; exact a11 k hk
theorem vN.sk {N S : Nat} (v : vN V N S) {c j : Nat} {x : Int32} (hj : j < 2) (hx : wi x 0 9) : vN (mm_u V (116 + j) c x) N S := by
  obtain ⟨a1, a2, a3, a4, a5, a6, a7, a8, a9, a10, a11⟩ := v
  have e : ∀ i, mm_u V (116 + j) c x 108 i = V 108 i := fun i => mm_u_o _ _ _ _ (by omega)
  refine ⟨a1, a2, by rw [e]; exact a3, by rw [e]; exact a4, by rw [e]; exact a5, by rw [e]; exact a6, by rw [e]; exact a7, by rw [e]; exact a8, by rw [e]; exact a9, fun c' hc' => ?_, fun k hk => ?_⟩
  · rw [mm_u_o _ _ _ _ (by omega), mm_u_o _ _ _ _ (by omega), mm_u_o _ _ _ _ (by omega), mm_u_o _ _ _ _ (by omega), mm_u_o _ _ _ _ (by omega)]; exact a10 c' hc'
  · obtain ⟨b0, b1⟩ := a11 k hk
    refine ⟨?_, ?_⟩
    · rw [mm_u_i]; split
      · exact hx
      · exact b0
    · rw [mm_u_i]; split
      · exact hx
      · exact b1
/-- a number of the field itself changed -/
theorem vN.fl {N S N1 S1 : Nat} (v : vN V N S) {j : Nat} {x : Int32} (hN : N1 ≤ 8) (hS : S1 ≤ 8) (hSS : S ≤ S1) (h0 : if j = 0 then x = nI N1 else N1 = N) (h1 : if j = 1 then x = nI S1 else S1 = S) (hx : (j = 2 → wi x 1 200) ∧ (j = 3 → wi x 1 20) ∧ (j = 4 → wi x 0 9) ∧ (j = 5 → wi x 0 60) ∧ (j = 6 → x = 0 ∨ x = 1)) : vN (mm_u V 108 j x) N1 S1 := by
  obtain ⟨a1, a2, a3, a4, a5, a6, a7, a8, a9, a10, a11⟩ := v
  refine ⟨hN, hS, ?_, ?_, ?_, ?_, ?_, ?_, ?_, fun c' hc' => ?_, fun k hk => ?_⟩
  · rw [mm_u_i]; split
    · rename_i z; rw [if_pos (by omega)] at h0; exact h0
    · rename_i z; rw [if_neg (by omega)] at h0; rw [h0]; exact a3
  · rw [mm_u_i]; split
    · rename_i z; rw [if_pos (by omega)] at h1; exact h1
    · rename_i z; rw [if_neg (by omega)] at h1; rw [h1]; exact a4
  · rw [mm_u_i]; split
    · rename_i z; exact hx.1 (by omega)
    · exact a5
  · rw [mm_u_i]; split
    · rename_i z; exact hx.2.1 (by omega)
    · exact a6
  · rw [mm_u_i]; split
    · rename_i z; exact hx.2.2.1 (by omega)
    · exact a7
  · rw [mm_u_i]; split
    · rename_i z; exact hx.2.2.2.1 (by omega)
    · exact a8
  · rw [mm_u_i]; split
    · rename_i z; exact hx.2.2.2.2 (by omega)
    · exact a9
  · rw [mm_u_o _ _ _ _ (by omega), mm_u_o _ _ _ _ (by omega), mm_u_o _ _ _ _ (by omega), mm_u_o _ _ _ _ (by omega), mm_u_o _ _ _ _ (by omega)]
    obtain ⟨b0, b1, b2, b3, b4⟩ := a10 c' hc'
    exact ⟨b0, b1, b2, b3.imp id (fun z => ⟨z.1, Int32.lt_of_lt_of_le z.2 (nI_le (by omega) (by omega))⟩), b4⟩
  · rw [mm_u_o _ _ _ _ (by omega), mm_u_o _ _ _ _ (by omega)]; exact a11 k hk
end UPDS
