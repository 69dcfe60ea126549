/-! PUBLIC METHODS: given: the reference gives -/
section P98r
variable {I C J K : pI} {L : pL} {N S : Nat} {T : Nat → Nat → Int32} {k : Nat}

/-- the reference's cells: the best is b, told for m children by w; n have theirs by g -/
def gvB (I C : pI) (T : Nat → Nat → Int32) (S k : Nat) (b : Int32) (m : Nat) (w : Nat → Int32) (n : Nat) (g : Nat → Int32) (J : pI) : Prop := mR I C J ∧ (∀ c, c < k → ∀ s, s < S → J 129 (8 * c + s) = T c s) ∧ J 108 50 = b ∧ (∀ j, j < m → J 131 j = w j) ∧ ∀ j, j < n → J 130 j = g j
def gvM (I C : pI) (T : Nat → Nat → Int32) (S k : Nat) (p : yP) (n : Nat) (g : Nat → Int32) (J : pI) : Prop := gvB I C T S k p.1 (if p.1 = -1 then 0 else k) p.2 n g J
theorem gvB.gv {b : Int32} {m n : Nat} {w g : Nat → Int32} (h : gvB I C T S k b m w n g J) (x : Int32) : gvB I C T S k b m w (n + 1) (yu g n x) (mm_u J 130 n x) := by
  obtain ⟨a1, a2, a3, a4, a5⟩ := h
  refine ⟨a1.u (by decide) rfl, fun c hc s hs => ?_, ?_, fun j hj => ?_, fun j hj => ?_⟩
  · rw [mm_u_o _ _ _ _ (by decide)]; exact a2 c hc s hs
  · rw [mm_u_o _ _ _ _ (by decide)]; exact a3
  · rw [mm_u_o _ _ _ _ (by decide)]; exact a4 j hj
  · by_cases z : j = n
    · rw [z, mm_u_s, yu_s]
    · rw [mm_u_j _ _ z, yu_o _ _ z]; exact a5 j (by omega)
theorem gvB.bs {b : Int32} {m n : Nat} {w g : Nat → Int32} (h : gvB I C T S k b m w n g J) (x : Int32) (w' : Nat → Int32) : gvB I C T S k x 0 w' n g (mm_u J 108 50 x) := by
  obtain ⟨a1, a2, a3, a4, a5⟩ := h
  refine ⟨a1.u (by decide) rfl, fun c hc s hs => ?_, mm_u_s _ _ _ _, fun j hj => absurd hj (Nat.not_lt_zero j), fun j hj => ?_⟩
  · rw [mm_u_o _ _ _ _ (by decide)]; exact a2 c hc s hs
  · rw [mm_u_o _ _ _ _ (by decide)]; exact a5 j hj
theorem gvB.cp {b : Int32} {m n : Nat} {w g : Nat → Int32} (h : gvB I C T S k b m w n g J) {x : Int32} (hx : x = w m) : gvB I C T S k b (m + 1) w n g (mm_u J 131 m x) := by
  obtain ⟨a1, a2, a3, a4, a5⟩ := h
  refine ⟨a1.u (by decide) rfl, fun c hc s hs => ?_, ?_, fun j hj => ?_, fun j hj => ?_⟩
  · rw [mm_u_o _ _ _ _ (by decide)]; exact a2 c hc s hs
  · rw [mm_u_o _ _ _ _ (by decide)]; exact a3
  · by_cases z : j = m
    · rw [z, mm_u_s, hx]
    · rw [mm_u_j _ _ z]; exact a4 j (by omega)
  · rw [mm_u_o _ _ _ _ (by decide)]; exact a5 j hj
theorem gvB.le {b : Int32} {m m2 n n2 : Nat} {w g : Nat → Int32} (h : gvB I C T S k b m w n g J) (h1 : m2 ≤ m) (h2 : n2 ≤ n) : gvB I C T S k b m2 w n2 g J := ⟨h.1, h.2.1, h.2.2.1, fun j hj => h.2.2.2.1 j (by omega), fun j hj => h.2.2.2.2 j (by omega)⟩
theorem gvB.g {b : Int32} {m n : Nat} {w g g2 : Nat → Int32} (h : gvB I C T S k b m w n g J) (hg : ∀ j, j < n → g j = g2 j) : gvB I C T S k b m w n g2 J := ⟨h.1, h.2.1, h.2.2.1, h.2.2.2.1, fun j hj => (h.2.2.2.2 j hj).trans (hg j hj)⟩
theorem nI_8 {i s : Nat} (hi : i < 5) (hs : s < 8) : (8 : Int32) * nI i + nI s = nI (8 * i + s) ∧ nI i * 8 + nI s = nI (8 * i + s) ∧ mm_in (nI (8 * i + s)) 40 = true ∧ (nI (8 * i + s)).toNatClampNeg = 8 * i + s := by
  have e : (8 : Int32) * nI i = nI (8 * i) ∧ nI i * 8 = nI (8 * i) := by
    have : i = 0 ∨ i = 1 ∨ i = 2 ∨ i = 3 ∨ i = 4 := by omega
    rcases this with rfl | rfl | rfl | rfl | rfl <;> exact ⟨by decide, by decide⟩
  refine ⟨by rw [e.1, nI_add], by rw [e.2, nI_add], ?_, nI_clamp (by omega)⟩
  exact mm_in_40.mpr ⟨nI_pos' (by omega), nI_lt (b := 40) (by omega) (by omega)⟩
theorem y_gs_4 {law : Int32} {n i : Nat} {met sum most least a b : Int32} {g : Nat → Int32} {s : Nat} {q : yP} (h : ¬ (met >>> (nI s &&& 31)) &&& 1 = 1) (ha : a = i_max most (T i s)) (hb : b = i_min least (T i s)) : y_gs law T S n i met sum most least g s q = y_gv law T S n (i + 1) (met ||| ((1 : Int32) <<< (nI s &&& 31))) (sum + T i s) a b (yu g i (nI s)) q := by
  rw [ha, hb]
  exact y_gs_f h
theorem gvM.nx {law : Int32} {n i : Nat} {met sum most least a b : Int32} {g : Nat → Int32} {s : Nat} {q : yP} (hK : gvM I C T S k (y_gv law T S n (i + 1) (met ||| ((1 : Int32) <<< (nI s &&& 31))) (sum + T i s) a b (yu g i (nI s)) q) (i + 1) (yu g i (nI s)) K) (h : ¬ (met >>> (nI s &&& 31)) &&& 1 = 1) (ha : a = i_max most (T i s)) (hb : b = i_min least (T i s)) : gvM I C T S k (y_gs law T S n i met sum most least g s q) i g K := by
  rw [y_gs_4 h ha hb]
  exact (hK.le (Nat.le_refl _) (by omega)).g (fun j hj => yu_o _ _ (by omega))

set_option maxHeartbeats 400000 in
theorem lp_gv58 (d : Nat) (hk : k ≤ 5) {law met sum most least : Int32} {x : Int32} {g : Nat → Int32} : ∀ (n i : Nat) (J : pI), i + n = k → gvB I C T S k x i g k g J → gP mm_cs0 (d) 9 false none cX9_gives 58 [some (.ref 108), some (.int law), some (.int (nI k)), some (.int (nI k)), some (.int met), some (.int sum), some (.int most), some (.int least), some (.int x), some (.int (nI i))] [] (mm_sh, mm_R, J, L) (pX none L (gvB I C T S k x k g k g)) := by
  intro n
  induction n with
  | zero =>
    intro i J hi hg
    obtain rfl : i = k := by omega
    have hc1 : nI i ≤ nI i := Int32.le_refl _
    refine gp_iload dX9_gives_58 rfl ?_
    refine gp_iload_n dX9_gives_60 rfl ?_
    refine gp_icc (t := 84) dX9_gives_61 (by decide) c2_ge (fun h1 => ?_) (fun h1 => ?_)
    · have h1' := Int32.not_lt.mpr h1
      refine gp_vret dX9_gives_84 rfl ?_
      exact pX.mk rfl hg
    · exact absurd hc1 h1
  | succ n ih =>
    intro i J hi hg
    have hc1 : ¬ nI k ≤ nI i := nI_ge (by omega) (by omega)
    have zqi : mm_in (nI i) 5 = true := mm_in_5.mpr ⟨nI_pos' (by omega), nI_lt (b := 5) (by omega) (by omega)⟩
    have zqg : J 130 (nI i).toNatClampNeg = g i := by rw [nI_clamp (by omega)]; exact hg.2.2.2.2 i (by omega)
    refine gp_iload dX9_gives_58 rfl ?_
    refine gp_iload_n dX9_gives_60 rfl ?_
    refine gp_icc (t := 84) dX9_gives_61 (by decide) c2_ge (fun h1 => ?_) (fun h1 => ?_)
    · exact absurd h1 hc1
    · have h1' := Int32.not_le.mp h1
      refine gp_aload_n dX9_gives_64 rfl ?_
      refine gp_gr dX9_gives_65 mf_9_96 rfl (by first | rfl | assumption | (simp only [*]; done)) (by first | rfl | assumption | (simp only [*]; done)) ?_
      refine gp_iload dX9_gives_68 rfl ?_
      refine gp_aload_n dX9_gives_70 rfl ?_
      refine gp_gr dX9_gives_71 mf_9_93 rfl (by first | rfl | assumption | (simp only [*]; done)) (by first | rfl | assumption | (simp only [*]; done)) ?_
      refine gp_iload dX9_gives_74 rfl ?_
      refine gp_ialv dX9_gives_76 rfl (by first | rfl | assumption | (simp only [*]; done)) zqi zqg ?_
      refine gp_ias dX9_gives_77 (by first | rfl | assumption | (simp only [*]; done)) zqi ?_
      refine gp_iinc (v := (1)) (ls' := [some (.ref _), some (.int _), some (.int _), some (.int _), some (.int _), some (.int _), some (.int _), some (.int _), some (.int _), some (.int _)]) dX9_gives_78 rfl (by decide) rfl ?_
      refine gp_goto (t := 58) dX9_gives_81 (by decide) ?_
      (rw [nI_1, nI_clamp (by omega)]; exact ih (i + 1) _ (by omega) (hg.cp rfl))

set_option maxHeartbeats 400000 in
theorem dn_gv49 (d : Nat) (hk : k ≤ 5) {law met sum most least : Int32} {x b : Int32} {m : Nat} {w g : Nat → Int32} {v9 : Option Value} (hg : gvB I C T S k b m w k g J) : gP mm_cs0 d 9 false none cX9_gives 49 [some (.ref 108), some (.int law), some (.int (nI k)), some (.int (nI k)), some (.int met), some (.int sum), some (.int most), some (.int least), some (.int x), v9] [] (mm_sh, mm_R, J, L) (pX none L (gvB I C T S k x k g k g)) := by
  refine gp_aload_n dX9_gives_49 rfl ?_
  refine gp_iload dX9_gives_50 rfl ?_
  refine gp_pi dX9_gives_52 mf_9_314 rfl rfl (by first | rfl | assumption | (simp only [*]; done)) ?_
  refine gp_pu (st' := .int (0) :: _) dX9_gives_55 rfl ?_
  refine gp_istore (ls' := [some (.ref _), some (.int _), some (.int _), some (.int _), some (.int _), some (.int _), some (.int _), some (.int _), some (.int _), some (.int _)]) dX9_gives_56 rfl (Nat.le_of_ble_eq_true rfl) ?_
  exact (lp_gv58 d hk k 0 _ (by omega) (hg.bs x g)).mono (fun r M q => q)

set_option maxHeartbeats 400000 in
theorem dn_gv29 (d : Nat) (hk : k ≤ 5) {law met sum most least : Int32} {x : Int32} {p : yP} {g : Nat → Int32} {v8 v9 : Option Value} (hg : gvM I C T S k p k g J) (hx : x = y_va law sum most least) : gP mm_cs0 d 9 false none cX9_gives 29 [some (.ref 108), some (.int law), some (.int (nI k)), some (.int (nI k)), some (.int met), some (.int sum), some (.int most), some (.int least), v8, v9] [.int x] (mm_sh, mm_R, J, L) (pX none L (gvM I C T S k (y_gv law T S 0 k met sum most least g p) k g)) := by
  refine gp_istore (ls' := [some (.ref _), some (.int _), some (.int _), some (.int _), some (.int _), some (.int _), some (.int _), some (.int _), some (.int _), _]) dX9_gives_29 rfl (Nat.le_of_ble_eq_true rfl) ?_
  refine gp_aload_n dX9_gives_31 rfl ?_
  refine gp_giv dX9_gives_32 mf_9_314 (by decide) (by first | rfl | assumption | (simp only [*]; done)) (by first | exact hg.2.2.1 | exact rfl) ?_
  refine gp_pu (st' := .int (-1) :: _) dX9_gives_35 rfl ?_
  refine gp_icc (t := 49) dX9_gives_36 (by decide) c2_eq (fun h1 => ?_) (fun h1 => ?_)
  · (refine (dn_gv49 d hk (b := p.1) (x := x) hg).mono (fun r M q => ?_)
     rw [show y_gv law T S 0 k met sum most least g p = (x, g) from by rw [hx]; exact if_neg (by rw [← hx]; rintro ⟨z1, z2⟩; first | exact z1 h1 | exact h2' z2)]
     obtain ⟨q1, J', q2, q3⟩ := q
     refine ⟨q1, J', q2, q3.le ?_ (Nat.le_refl _)⟩
     show (if x = -1 then 0 else k) ≤ k
     split <;> omega)
  · refine gp_iload dX9_gives_39 rfl ?_
    refine gp_aload_n dX9_gives_41 rfl ?_
    refine gp_giv dX9_gives_42 mf_9_314 (by decide) (by first | rfl | assumption | (simp only [*]; done)) (by first | exact hg.2.2.1 | exact rfl) ?_
    refine gp_icc (t := 49) dX9_gives_45 (by decide) c2_lt (fun h2 => ?_) (fun h2 => ?_)
    · have h2' := Int32.not_le.mpr h2
      (refine (dn_gv49 d hk (b := p.1) (x := x) hg).mono (fun r M q => ?_)
       rw [show y_gv law T S 0 k met sum most least g p = (x, g) from by rw [hx]; exact if_neg (by rw [← hx]; rintro ⟨z1, z2⟩; first | exact z1 h1 | exact h2' z2)]
       obtain ⟨q1, J', q2, q3⟩ := q
       refine ⟨q1, J', q2, q3.le ?_ (Nat.le_refl _)⟩
       show (if x = -1 then 0 else k) ≤ k
       split <;> omega)
    · have h2' := Int32.not_lt.mp h2
      refine gp_vret dX9_gives_48 rfl ?_
      exact pX.mk rfl (by rw [show y_gv law T S 0 k met sum most least g p = p from if_pos ⟨h1, by rw [← hx]; exact h2'⟩]; exact hg)

set_option maxHeartbeats 400000 in
theorem lp_gv88 (d : Nat) (v : vN I N S) (hk : k ≤ 5) {law met sum most least : Int32} {n i : Nat} {g : Nat → Int32} {p : yP} (hi : i + (n + 1) = k) (hcall : ∀ (met sum most least : Int32) (g : Nat → Int32) (p : yP) (J : pI), gvM I C T S k p (i + 1) g J → cP d 192 [.ref 108, .int law, .int (nI i + 1), .int (nI k), .int met, .int sum, .int most, .int least] (mm_sh, mm_R, J, L) (pX none L (gvM I C T S k (y_gv law T S n (i + 1) met sum most least g p) (i + 1) g))) : ∀ (m s : Nat) (v9 : Option Value) (J : pI), s + m = S → gvM I C T S k (y_fo (y_gs law T S n i met sum most least g) s p) i g J → gP mm_cs0 (d) 9 false none cX9_gives 88 [some (.ref 108), some (.int law), some (.int (nI i)), some (.int (nI k)), some (.int met), some (.int sum), some (.int most), some (.int least), some (.int (nI s)), v9] [] (mm_sh, mm_R, J, L) (pX none L (gvM I C T S k (y_fo (y_gs law T S n i met sum most least g) S p) i g)) := by
  intro m
  induction m with
  | zero =>
    intro s v9 J hs hg
    obtain rfl : s = S := by omega
    have hS8 := v.2.1
    have zq0 : J 108 1 = nI s := (hg.1.r (by decide)).trans v.2.2.2.1
    have hc1 : nI s ≤ nI s := Int32.le_refl _
    refine gp_iload dX9_gives_88 rfl ?_
    refine gp_aload_n dX9_gives_90 rfl ?_
    refine gp_giv dX9_gives_91 mf_9_120 (by decide) (by first | rfl | assumption | (simp only [*]; done)) (by first | exact zq0 | exact rfl) ?_
    refine gp_icc (t := 188) dX9_gives_94 (by decide) c2_ge (fun h1 => ?_) (fun h1 => ?_)
    · have h1' := Int32.not_lt.mpr h1
      refine gp_vret dX9_gives_188 rfl ?_
      exact pX.mk rfl hg
    · exact absurd hc1 h1
  | succ m ih =>
    intro s v9 J hs hg
    have hS8 := v.2.1
    have zq0 : J 108 1 = nI S := (hg.1.r (by decide)).trans v.2.2.2.1
    have hc1 : ¬ nI S ≤ nI s := nI_ge (by omega) (by omega)
    have zq8 := nI_8 (i := i) (s := s) (by omega) (by omega)
    have zqt : J 129 (8 * nI i + nI s).toNatClampNeg = T i s := by rw [zq8.1, zq8.2.2.2]; exact hg.2.1 i (by omega) s (by omega)
    have zqi : mm_in (nI i) 5 = true := mm_in_5.mpr ⟨nI_pos' (by omega), nI_lt (b := 5) (by omega) (by omega)⟩
    refine gp_iload dX9_gives_88 rfl ?_
    refine gp_aload_n dX9_gives_90 rfl ?_
    refine gp_giv dX9_gives_91 mf_9_120 (by decide) (by first | rfl | assumption | (simp only [*]; done)) (by first | exact zq0 | exact rfl) ?_
    refine gp_icc (t := 188) dX9_gives_94 (by decide) c2_ge (fun h1 => ?_) (fun h1 => ?_)
    · exact absurd h1 hc1
    · have h1' := Int32.not_le.mp h1
      (try simp only [Classical.not_not] at h1)
      refine gp_iload dX9_gives_97 rfl ?_
      refine gp_iload dX9_gives_99 rfl ?_
      refine gp_pu (st' := .int _ :: _) dX9_gives_101 rfl ?_
      refine gp_pu (st' := .int (1) :: _) dX9_gives_102 rfl ?_
      refine gp_pu (st' := .int _ :: _) dX9_gives_103 rfl ?_
      refine gp_pu (st' := .int (1) :: _) dX9_gives_104 rfl ?_
      refine gp_icc (t := 111) dX9_gives_105 (by decide) c2_ne (fun h2 => ?_) (fun h2 => ?_)
      · (try simp only [Classical.not_not] at h2)
        refine gp_aload_n dX9_gives_111 rfl ?_
        refine gp_gr dX9_gives_112 mf_9_90 rfl (by first | rfl | assumption | (simp only [*]; done)) (by first | rfl | assumption | (simp only [*]; done)) ?_
        refine gp_pu (st' := .int (8) :: _) dX9_gives_115 rfl ?_
        refine gp_iload_n dX9_gives_117 rfl ?_
        refine gp_pu (st' := .int _ :: _) dX9_gives_118 rfl ?_
        refine gp_iload dX9_gives_119 rfl ?_
        refine gp_pu (st' := .int _ :: _) dX9_gives_121 rfl ?_
        refine gp_ialv dX9_gives_122 rfl (by first | rfl | assumption | (simp only [*]; done)) (by rw [zq8.1]; exact zq8.2.2.1) zqt ?_
        refine gp_istore (ls' := [some (.ref _), some (.int _), some (.int _), some (.int _), some (.int _), some (.int _), some (.int _), some (.int _), some (.int _), some (.int _)]) dX9_gives_123 rfl (Nat.le_of_ble_eq_true rfl) ?_
        refine gp_aload_n dX9_gives_125 rfl ?_
        refine gp_gr dX9_gives_126 mf_9_93 rfl (by first | rfl | assumption | (simp only [*]; done)) (by first | rfl | assumption | (simp only [*]; done)) ?_
        refine gp_iload_n dX9_gives_129 rfl ?_
        refine gp_iload dX9_gives_130 rfl ?_
        refine gp_ias dX9_gives_132 (by first | rfl | assumption | (simp only [*]; done)) zqi ?_
        refine gp_aload_n dX9_gives_133 rfl ?_
        refine gp_iload_n dX9_gives_134 rfl ?_
        refine gp_iload_n dX9_gives_135 rfl ?_
        refine gp_pu (st' := .int (1) :: _) dX9_gives_136 rfl ?_
        refine gp_pu (st' := .int _ :: _) dX9_gives_137 rfl ?_
        refine gp_iload_n dX9_gives_138 rfl ?_
        refine gp_iload dX9_gives_139 rfl ?_
        refine gp_pu (st' := .int (1) :: _) dX9_gives_141 rfl ?_
        refine gp_iload dX9_gives_142 rfl ?_
        refine gp_pu (st' := .int _ :: _) dX9_gives_144 rfl ?_
        refine gp_pu (st' := .int _ :: _) dX9_gives_145 rfl ?_
        refine gp_iload dX9_gives_146 rfl ?_
        refine gp_iload dX9_gives_148 rfl ?_
        refine gp_pu (st' := .int _ :: _) dX9_gives_150 rfl ?_
        refine gp_iload dX9_gives_151 rfl ?_
        refine gp_iload dX9_gives_153 rfl ?_
        refine gp_icc (t := 163) dX9_gives_155 (by decide) c2_le (fun h3 => ?_) (fun h3 => ?_)
        · have h3' := Int32.not_lt.mpr h3
          (try simp only [Classical.not_not] at h3)
          refine gp_iload dX9_gives_163 rfl ?_
          refine gp_iload dX9_gives_165 rfl ?_
          refine gp_iload dX9_gives_167 rfl ?_
          refine gp_icc (t := 177) dX9_gives_169 (by decide) c2_ge (fun h4 => ?_) (fun h4 => ?_)
          · have h4' := Int32.not_lt.mpr h4
            (try simp only [Classical.not_not] at h4)
            refine gp_iload dX9_gives_177 rfl ?_
            refine gp_callX (kind := 1) (args := [.ref _, .int _, .int _, .int _, .int _, .int _, .int _, .int _]) (rest := _) dX9_gives_179 (Or.inr (Or.inl ⟨rfl, rfl⟩)) mk_9_317 (by decide) me_192 rfl rfl rfl rfl rfl (mm_rc_of (by first | rfl | assumption | (simp only [*]; done))) (hcall _ _ _ _ (yu g i (nI s)) (y_fo (y_gs law T S n i met sum most least g) s p) _ (by rw [nI_clamp (by omega)]; exact hg.gv (nI s))) ?_
            intro K1 hK1
            refine gp_iinc (v := (1)) (ls' := [some (.ref _), some (.int _), some (.int _), some (.int _), some (.int _), some (.int _), some (.int _), some (.int _), some (.int _), some (.int _)]) dX9_gives_182 rfl (by decide) rfl ?_
            refine gp_goto (t := 88) dX9_gives_185 (by decide) ?_
            (rw [nI_1]
             first | exact ih (s + 1) _ _ (by omega) (by rw [y_fo, y_gs_t h2]; exact hg) | exact ih (s + 1) _ _ (by omega) (hK1.nx h2 (by unfold i_max; first | exact (if_neg (by assumption)).symm | exact (if_pos (by assumption)).symm) (by unfold i_min; first | exact (if_neg (by assumption)).symm | exact (if_pos (by assumption)).symm)))
          · have h4' := Int32.not_le.mp h4
            (try simp only [Classical.not_not] at h4)
            refine gp_iload dX9_gives_172 rfl ?_
            refine gp_goto (t := 179) dX9_gives_174 (by decide) ?_
            refine gp_callX (kind := 1) (args := [.ref _, .int _, .int _, .int _, .int _, .int _, .int _, .int _]) (rest := _) dX9_gives_179 (Or.inr (Or.inl ⟨rfl, rfl⟩)) mk_9_317 (by decide) me_192 rfl rfl rfl rfl rfl (mm_rc_of (by first | rfl | assumption | (simp only [*]; done))) (hcall _ _ _ _ (yu g i (nI s)) (y_fo (y_gs law T S n i met sum most least g) s p) _ (by rw [nI_clamp (by omega)]; exact hg.gv (nI s))) ?_
            intro K1 hK1
            refine gp_iinc (v := (1)) (ls' := [some (.ref _), some (.int _), some (.int _), some (.int _), some (.int _), some (.int _), some (.int _), some (.int _), some (.int _), some (.int _)]) dX9_gives_182 rfl (by decide) rfl ?_
            refine gp_goto (t := 88) dX9_gives_185 (by decide) ?_
            (rw [nI_1]
             first | exact ih (s + 1) _ _ (by omega) (by rw [y_fo, y_gs_t h2]; exact hg) | exact ih (s + 1) _ _ (by omega) (hK1.nx h2 (by unfold i_max; first | exact (if_neg (by assumption)).symm | exact (if_pos (by assumption)).symm) (by unfold i_min; first | exact (if_neg (by assumption)).symm | exact (if_pos (by assumption)).symm)))
        · have h3' := Int32.not_le.mp h3
          (try simp only [Classical.not_not] at h3)
          refine gp_iload dX9_gives_158 rfl ?_
          refine gp_goto (t := 165) dX9_gives_160 (by decide) ?_
          refine gp_iload dX9_gives_165 rfl ?_
          refine gp_iload dX9_gives_167 rfl ?_
          refine gp_icc (t := 177) dX9_gives_169 (by decide) c2_ge (fun h5 => ?_) (fun h5 => ?_)
          · have h5' := Int32.not_lt.mpr h5
            (try simp only [Classical.not_not] at h5)
            refine gp_iload dX9_gives_177 rfl ?_
            refine gp_callX (kind := 1) (args := [.ref _, .int _, .int _, .int _, .int _, .int _, .int _, .int _]) (rest := _) dX9_gives_179 (Or.inr (Or.inl ⟨rfl, rfl⟩)) mk_9_317 (by decide) me_192 rfl rfl rfl rfl rfl (mm_rc_of (by first | rfl | assumption | (simp only [*]; done))) (hcall _ _ _ _ (yu g i (nI s)) (y_fo (y_gs law T S n i met sum most least g) s p) _ (by rw [nI_clamp (by omega)]; exact hg.gv (nI s))) ?_
            intro K1 hK1
            refine gp_iinc (v := (1)) (ls' := [some (.ref _), some (.int _), some (.int _), some (.int _), some (.int _), some (.int _), some (.int _), some (.int _), some (.int _), some (.int _)]) dX9_gives_182 rfl (by decide) rfl ?_
            refine gp_goto (t := 88) dX9_gives_185 (by decide) ?_
            (rw [nI_1]
             first | exact ih (s + 1) _ _ (by omega) (by rw [y_fo, y_gs_t h2]; exact hg) | exact ih (s + 1) _ _ (by omega) (hK1.nx h2 (by unfold i_max; first | exact (if_neg (by assumption)).symm | exact (if_pos (by assumption)).symm) (by unfold i_min; first | exact (if_neg (by assumption)).symm | exact (if_pos (by assumption)).symm)))
          · have h5' := Int32.not_le.mp h5
            (try simp only [Classical.not_not] at h5)
            refine gp_iload dX9_gives_172 rfl ?_
            refine gp_goto (t := 179) dX9_gives_174 (by decide) ?_
            refine gp_callX (kind := 1) (args := [.ref _, .int _, .int _, .int _, .int _, .int _, .int _, .int _]) (rest := _) dX9_gives_179 (Or.inr (Or.inl ⟨rfl, rfl⟩)) mk_9_317 (by decide) me_192 rfl rfl rfl rfl rfl (mm_rc_of (by first | rfl | assumption | (simp only [*]; done))) (hcall _ _ _ _ (yu g i (nI s)) (y_fo (y_gs law T S n i met sum most least g) s p) _ (by rw [nI_clamp (by omega)]; exact hg.gv (nI s))) ?_
            intro K1 hK1
            refine gp_iinc (v := (1)) (ls' := [some (.ref _), some (.int _), some (.int _), some (.int _), some (.int _), some (.int _), some (.int _), some (.int _), some (.int _), some (.int _)]) dX9_gives_182 rfl (by decide) rfl ?_
            refine gp_goto (t := 88) dX9_gives_185 (by decide) ?_
            (rw [nI_1]
             first | exact ih (s + 1) _ _ (by omega) (by rw [y_fo, y_gs_t h2]; exact hg) | exact ih (s + 1) _ _ (by omega) (hK1.nx h2 (by unfold i_max; first | exact (if_neg (by assumption)).symm | exact (if_pos (by assumption)).symm) (by unfold i_min; first | exact (if_neg (by assumption)).symm | exact (if_pos (by assumption)).symm)))
      · (try simp only [Classical.not_not] at h2)
        refine gp_goto (t := 182) dX9_gives_108 (by decide) ?_
        refine gp_iinc (v := (1)) (ls' := [some (.ref _), some (.int _), some (.int _), some (.int _), some (.int _), some (.int _), some (.int _), some (.int _), some (.int _), _]) dX9_gives_182 rfl (by decide) rfl ?_
        refine gp_goto (t := 88) dX9_gives_185 (by decide) ?_
        (rw [nI_1]
         first | exact ih (s + 1) _ _ (by omega) (by rw [y_fo, y_gs_t h2]; exact hg) | exact ih (s + 1) _ _ (by omega) (hK1.nx h2 (by unfold i_max; first | exact (if_neg (by assumption)).symm | exact (if_pos (by assumption)).symm) (by unfold i_min; first | exact (if_neg (by assumption)).symm | exact (if_pos (by assumption)).symm)))

set_option maxHeartbeats 400000 in
theorem mt_gives (v : vN I N S) (hk : k ≤ 5) {law : Int32} (n : Nat) : ∀ (d i : Nat) (met sum most least : Int32) (g : Nat → Int32) (p : yP) (J : pI), i + n = k → gvM I C T S k p i g J → cP (d + n + 1) 192 [.ref 108, .int law, .int (nI i), .int (nI k), .int met, .int sum, .int most, .int least] (mm_sh, mm_R, J, L) (pX none L (gvM I C T S k (y_gv law T S n i met sum most least g p) i g)) := by
  induction n with
  | zero =>
    intro d i met sum most least g p J hi hg
    obtain rfl : i = k := by omega
    refine cP.of_gP (d := d + 0) me_192 ⟨Nat.le_of_ble_eq_true rfl, rfl⟩ ?_
    show gP mm_cs0 _ _ _ _ _ _ [some (.ref _), some (.int _), some (.int _), some (.int _), some (.int _), some (.int _), some (.int _), some (.int _), none, none] [] _ _
    refine gp_iload_n dX9_gives_0 rfl ?_
    refine gp_iload_n dX9_gives_1 rfl ?_
    refine gp_icc (t := 85) dX9_gives_2 (by decide) c2_ne (fun h1 => ?_) (fun h1 => ?_)
    · exact absurd rfl h1
    · (try simp only [Classical.not_not] at h1)
      refine gp_iload_n dX9_gives_5 rfl ?_
      refine gp_ifc (t := 14) dX9_gives_6 (by decide) c1_ne (fun h2 => ?_) (fun h2 => ?_)
      · (try simp only [Classical.not_not] at h2)
        refine gp_iload_n dX9_gives_14 rfl ?_
        refine gp_pu (st' := .int (1) :: _) dX9_gives_15 rfl ?_
        refine gp_icc (t := 24) dX9_gives_16 (by decide) c2_ne (fun h3 => ?_) (fun h3 => ?_)
        · (try simp only [Classical.not_not] at h3)
          refine gp_iload dX9_gives_24 rfl ?_
          refine gp_iload dX9_gives_26 rfl ?_
          refine gp_pu (st' := .int _ :: _) dX9_gives_28 rfl ?_
          exact dn_gv29 (d + 0) hk hg (by unfold y_va; first | rw [if_pos h2] | rw [if_neg h2, if_pos h3] | rw [if_neg h2, if_neg h3])
        · (try simp only [Classical.not_not] at h3)
          refine gp_iload dX9_gives_19 rfl ?_
          refine gp_goto (t := 29) dX9_gives_21 (by decide) ?_
          exact dn_gv29 (d + 0) hk hg (by unfold y_va; first | rw [if_pos h2] | rw [if_neg h2, if_pos h3] | rw [if_neg h2, if_neg h3])
      · (try simp only [Classical.not_not] at h2)
        refine gp_iload dX9_gives_9 rfl ?_
        refine gp_goto (t := 29) dX9_gives_11 (by decide) ?_
        exact dn_gv29 (d + 0) hk hg (by unfold y_va; first | rw [if_pos h2] | rw [if_neg h2, if_pos h3] | rw [if_neg h2, if_neg h3])
  | succ n ih =>
    intro d i met sum most least g p J hi hg
    have hne : ¬ nI i = nI k := fun q => by
      have := (nI_eq (by omega) (by omega)).mp q
      omega
    refine cP.of_gP (d := d + (n + 1)) me_192 ⟨Nat.le_of_ble_eq_true rfl, rfl⟩ ?_
    show gP mm_cs0 _ _ _ _ _ _ [some (.ref _), some (.int _), some (.int _), some (.int _), some (.int _), some (.int _), some (.int _), some (.int _), none, none] [] _ _
    refine gp_iload_n dX9_gives_0 rfl ?_
    refine gp_iload_n dX9_gives_1 rfl ?_
    refine gp_icc (t := 85) dX9_gives_2 (by decide) c2_ne (fun h1 => ?_) (fun h1 => ?_)
    · (try simp only [Classical.not_not] at h1)
      refine gp_pu (st' := .int (0) :: _) dX9_gives_85 rfl ?_
      refine gp_istore (ls' := [some (.ref _), some (.int _), some (.int _), some (.int _), some (.int _), some (.int _), some (.int _), some (.int _), some (.int _), none]) dX9_gives_86 rfl (Nat.le_of_ble_eq_true rfl) ?_
      exact lp_gv88 (d + (n + 1)) v hk hi (fun met sum most least g p J hJ => by rw [nI_1]; exact ih d (i + 1) met sum most least g p J (by omega) hJ) S 0 _ J (by omega) hg
    · exact absurd hne h1
end P98r
