/-! THE LITTLE MACHINE IS SOUND: the words of the calls -/
def mm_bn (b : Nat) : MethodName := match b with
  | 900 => Lib.objectInit
  | 901 => Lib.Math.abs.name
  | 902 => Lib.Math.max.name
  | 903 => Lib.Math.min.name
  | 904 => yJ0_length_8abf5
  | 905 => yJ0_charAt_5068e
  | _ => arraycopyName
def mm_ckM (own : Nat) (e : Nat × Nat × Nat) : Bool := if 900 ≤ e.2.1 then mm_wk (.methodLink (mm_RN own) e.1 (mm_bn e.2.1)) && decide (e.2.1 < 907) else match mm_me e.2.1 with
  | some q => if e.2.2 = 0 then mm_wk (.methodLink (mm_RN own) e.1 q.1) else decide (Cond.methodLinkNest (mm_RN own) e.1 q.1 RX8 ∈ mm_nst)
  | none => false
set_option maxRecDepth 100000 in
theorem mm_ckM_0 : ∀ own, own < 8 → (mm_ml own).all (mm_ckM own) = true := by decide +kernel
set_option maxRecDepth 100000 in
theorem mm_ckM_8 : (mm_ml 8).all (mm_ckM 8) = true := by decide +kernel
set_option maxRecDepth 100000 in
theorem mm_ckM_9 : (mm_ml 9).all (mm_ckM 9) = true := by decide +kernel
set_option maxRecDepth 100000 in
theorem mm_ckM_10 : (mm_ml 10).all (mm_ckM 10) = true := by decide +kernel
theorem mm_ml_big {own : Nat} (h : 11 ≤ own) : mm_ml own = [] := by
  obtain ⟨k, rfl⟩ : ∃ k, own = k + 11 := ⟨own - 11, by omega⟩
  rfl
theorem mm_mt_ck {own idx : Nat} {r : Nat × Nat} (h : mm_mt own idx = some r) : mm_ckM own (idx, r) = true := by
  have h1 : (idx, r) ∈ mm_ml own := mm_find h
  by_cases a : own < 8
  · exact List.all_eq_true.mp (mm_ckM_0 own a) _ h1
  · by_cases b : own = 8
    · subst b; exact List.all_eq_true.mp mm_ckM_8 _ h1
    · by_cases c : own = 9
      · subst c; exact List.all_eq_true.mp mm_ckM_9 _ h1
      · by_cases d : own = 10
        · subst d; exact List.all_eq_true.mp mm_ckM_10 _ h1
        · rw [mm_ml_big (by omega)] at h1; cases h1
