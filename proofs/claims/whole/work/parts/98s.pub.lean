/-! PUBLIC METHODS: given: the class gives -/
section P98s
variable {I C J K : pI} {L : pL} {N S : Nat} {T : Nat → Nat → Int32} {k : Nat} {law : Int32}

/-- the class's cells: the best is b, told for m children by w; n have theirs by g -/
def gvD (I : pI) (T : Nat → Nat → Int32) (S k : Nat) (law b : Int32) (m : Nat) (w : Nat → Int32) (n : Nat) (g : Nat → Int32) (J : pI) : Prop := sc I J ∧ (∀ c, c < k → ∀ s, s < S → J 68 (8 * c + s) = T c s) ∧ (J 67 4 = law ∧ J 67 5 = nI k ∧ J 67 6 = nI S) ∧ J 67 3 = b ∧ (∀ j, j < m → J 70 j = w j) ∧ ∀ j, j < n → J 69 j = g j
def y_le (p : yP) : Int32 := if p.1 = -1 then 2147483647 else p.1
def gvC (I : pI) (T : Nat → Nat → Int32) (S k : Nat) (law : Int32) (p : yP) (n : Nat) (g : Nat → Int32) (J : pI) : Prop := gvD I T S k law (y_le p) (if p.1 = -1 then 0 else k) p.2 n g J
theorem y_le_b {p : yP} {x : Int32} (hp : y_bo p) (hx : wi x (-999) 4995) : x < y_le p ↔ ¬ (¬ p.1 = -1 ∧ p.1 ≤ x) := by
  have e : (2147483647 : Int32).toInt = 2147483647 := by decide
  obtain ⟨x1, x2⟩ := hx
  unfold y_le
  by_cases z : p.1 = -1
  · rw [if_pos z]
    refine ⟨fun _ q => q.1 z, fun _ => ?_⟩
    rw [ti_lt, e]
    omega
  · rw [if_neg z]
    refine ⟨fun h q => ?_, fun h => ?_⟩
    · exact absurd h (Int32.not_lt.mpr q.2)
    · exact Int32.not_le.mp fun q => h ⟨z, q⟩
theorem gvD.gv {b : Int32} {m n : Nat} {w g : Nat → Int32} (h : gvD I T S k law b m w n g J) (x : Int32) : gvD I T S k law b m w (n + 1) (yu g n x) (mm_u J 69 n x) := by
  obtain ⟨a1, a2, a6, a3, a4, a5⟩ := h
  refine ⟨a1.u rfl, fun c hc s hs => ?_, ?_, ?_, fun j hj => ?_, fun j hj => ?_⟩
  · rw [mm_u_o _ _ _ _ (by decide)]; exact a2 c hc s hs
  · rw [mm_u_o _ _ _ _ (by decide), mm_u_o _ _ _ _ (by decide), mm_u_o _ _ _ _ (by decide)]; exact a6
  · rw [mm_u_o _ _ _ _ (by decide)]; exact a3
  · rw [mm_u_o _ _ _ _ (by decide)]; exact a4 j hj
  · by_cases z : j = n
    · rw [z, mm_u_s, yu_s]
    · rw [mm_u_j _ _ z, yu_o _ _ z]; exact a5 j (by omega)
theorem gvD.le {b : Int32} {m m2 n n2 : Nat} {w g : Nat → Int32} (h : gvD I T S k law b m w n g J) (h1 : m2 ≤ m) (h2 : n2 ≤ n) : gvD I T S k law b m2 w n2 g J := ⟨h.1, h.2.1, h.2.2.1, h.2.2.2.1, fun j hj => h.2.2.2.2.1 j (by omega), fun j hj => h.2.2.2.2.2 j (by omega)⟩
theorem gvD.g {b : Int32} {m n : Nat} {w g g2 : Nat → Int32} (h : gvD I T S k law b m w n g J) (hg : ∀ j, j < n → g j = g2 j) : gvD I T S k law b m w n g2 J := ⟨h.1, h.2.1, h.2.2.1, h.2.2.2.1, h.2.2.2.2.1, fun j hj => (h.2.2.2.2.2 j hj).trans (hg j hj)⟩
theorem gvC.nx {n i : Nat} {met sum most least : Int32} {g : Nat → Int32} {s : Nat} {q : yP} (zqk : gvC I T S k law (y_gv law T S n (i + 1) (met ||| ((1 : Int32) <<< (nI s &&& 31))) (sum + T i s) (i_max most (T i s)) (i_min least (T i s)) (yu g i (nI s)) q) (i + 1) (yu g i (nI s)) K) (h : ¬ (met >>> (nI s &&& 31)) &&& 1 = 1) : gvC I T S k law (y_gs law T S n i met sum most least g s q) i g K := by
  rw [y_gs_f h]
  exact (zqk.le (Nat.le_refl _) (by omega)).g (fun j hj => yu_o _ _ (by omega))
theorem y_bo_gs (k0 : 0 < k) (hk : k ≤ 5) (hT : ∀ c s, c < k → s < S → wi (T c s) 0 999) {n i s : Nat} {met sum most least : Int32} {g : Nat → Int32} {q : yP} (hi : i + (n + 1) = k) (hs : s < S) (h1 : y_ok i sum most least) (h : y_bo q) : y_bo (y_gs law T S n i met sum most least g s q) := by
  by_cases z : (met >>> (nI s &&& 31)) &&& 1 = 1
  · rw [y_gs_t z]; exact h
  · rw [y_gs_f z]
    exact (y_gv_ok k0 hk hT n (i + 1) _ _ _ _ _ q (by omega) (y_ok_s h1 (by omega) (hT i s (by omega) hs)) h).1
theorem gv_bi {d : Nat} : mm_bi d 906 [.ref 69, .int 0, .ref 70, .int 0, .int 5] (mm_sh, mm_R, J, L) = some (none, mm_sh, mm_R, mm_cy J 69 70 0 0 5, L) := by
  have a : mm_sh[69]? = some (100, 5) := rfl
  have b : mm_sh[70]? = some (100, 5) := rfl
  simp [mm_bi, a, b]
theorem gvD.cp {b : Int32} {m : Nat} {w g : Nat → Int32} (hk : k ≤ 5) (h : gvD I T S k law b m w k g J) (x : Int32) : gvD I T S k law x k g k g (mm_cy (mm_u J 67 3 x) 69 70 0 0 5) := by
  have e : ∀ a j, a ≠ 70 → mm_cy (mm_u J 67 3 x) 69 70 0 0 5 a j = mm_u J 67 3 x a j := fun a j ha => by
    unfold mm_cy
    rw [if_neg ha]
  have e7 : ∀ j, j < 5 → mm_cy (mm_u J 67 3 x) 69 70 0 0 5 70 j = J 69 j := fun j hj => by
    unfold mm_cy va_cpy
    rw [if_pos rfl, if_pos (by omega), mm_u_o _ _ _ _ (by decide)]
    congr 1
    omega
  obtain ⟨a1, a2, a6, a3, a4, a5⟩ := h
  refine ⟨fun a j z => ?_, fun c hc s hs => ?_, ?_, ?_, fun j hj => ?_, fun j hj => ?_⟩
  · have h70 : a ≠ 70 := fun q => by rw [q] at z; cases z
    have h67 : a ≠ 67 := fun q => by rw [q] at z; cases z
    rw [e a j h70, mm_u_o _ _ _ _ h67]
    exact a1 a j z
  · rw [e _ _ (by decide), mm_u_o _ _ _ _ (by decide)]; exact a2 c hc s hs
  · rw [e _ _ (by decide), e _ _ (by decide), e _ _ (by decide), mm_u_j _ _ (by decide), mm_u_j _ _ (by decide), mm_u_j _ _ (by decide)]; exact a6
  · rw [e _ _ (by decide), mm_u_s]
  · rw [e7 j (by omega)]; exact a5 j hj
  · rw [e _ _ (by decide), mm_u_o _ _ _ _ (by decide)]; exact a5 j hj

set_option maxHeartbeats 400000 in
theorem dn_cg41 (d : Nat) (hk : k ≤ 5) {met sum most least : Int32} {x b : Int32} {m : Nat} {w g : Nat → Int32} {v7 v8 : Option Value} (hg : gvD I T S k law b m w k g J) : gP mm_cs0 d 2 false none cX2_giveFrom 41 [some (.ref 67), some (.int (nI k)), some (.int met), some (.int sum), some (.int most), some (.int least), some (.int x), v7, v8] [] (mm_sh, mm_R, J, L) (pX none L (gvD I T S k law x k g k g)) := by
  refine gp_iload_n dX2_giveFrom_41 rfl ?_
  refine gp_aload_n dX2_giveFrom_42 rfl ?_
  refine gp_giv dX2_giveFrom_43 mf_2_31 (by decide) (by first | rfl | assumption | (simp only [*]; done)) (by first | exact hg.2.2.1.2.1 | exact rfl) ?_
  refine gp_icc (t := 54) dX2_giveFrom_46 (by decide) c2_ge (fun h1 => ?_) (fun h1 => ?_)
  · have h1' := Int32.not_lt.mpr h1
    refine gp_aload_n dX2_giveFrom_54 rfl ?_
    refine gp_iload dX2_giveFrom_55 rfl ?_
    refine gp_pi dX2_giveFrom_57 mf_2_40 rfl rfl (by first | rfl | assumption | (simp only [*]; done)) ?_
    refine gp_aload_n dX2_giveFrom_60 rfl ?_
    refine gp_gr dX2_giveFrom_61 mf_2_15 rfl (by first | rfl | assumption | (simp only [*]; done)) (by first | rfl | assumption | (simp only [*]; done)) ?_
    refine gp_pu (st' := .int (0) :: _) dX2_giveFrom_64 rfl ?_
    refine gp_aload_n dX2_giveFrom_65 rfl ?_
    refine gp_gr dX2_giveFrom_66 mf_2_18 rfl (by first | rfl | assumption | (simp only [*]; done)) (by first | rfl | assumption | (simp only [*]; done)) ?_
    refine gp_pu (st' := .int (0) :: _) dX2_giveFrom_69 rfl ?_
    refine gp_pu (st' := .int (5) :: _) dX2_giveFrom_70 rfl ?_
    refine gp_bi (kind := 0) (args := [.ref _, .int _, .ref _, .int _, .int _]) (rest := _) dX2_giveFrom_71 (Or.inl ⟨rfl, rfl⟩) mk_2_47 (by decide) rfl rfl rfl rfl gv_bi rfl ?_
    refine gp_vret dX2_giveFrom_74 rfl ?_
    exact pX.mk rfl (hg.cp hk x)
  · exact absurd (Int32.le_refl _) h1

set_option maxHeartbeats 400000 in
theorem dn_cg29 (d : Nat) {met sum most least : Int32} {i n m : Nat} {x b : Int32} {w g : Nat → Int32} {v6 v7 v8 : Option Value} {Q : Option Value → mm_M → Prop} (hg : gvD I T S k law b m w n g J) (hcont : x < b → gP mm_cs0 d 2 false none cX2_giveFrom 41 [some (.ref 67), some (.int (nI i)), some (.int met), some (.int sum), some (.int most), some (.int least), some (.int x), v7, v8] [] (mm_sh, mm_R, J, L) Q) (hend : ¬ x < b → Q none (mm_sh, mm_R, J, L)) : gP mm_cs0 d 2 false none cX2_giveFrom 29 [some (.ref 67), some (.int (nI i)), some (.int met), some (.int sum), some (.int most), some (.int least), v6, v7, v8] [.int x] (mm_sh, mm_R, J, L) Q := by
  refine gp_istore (ls' := [some (.ref _), some (.int _), some (.int _), some (.int _), some (.int _), some (.int _), some (.int _), _, _]) dX2_giveFrom_29 rfl (Nat.le_of_ble_eq_true rfl) ?_
  refine gp_iload dX2_giveFrom_31 rfl ?_
  refine gp_aload_n dX2_giveFrom_33 rfl ?_
  refine gp_giv dX2_giveFrom_34 mf_2_40 (by decide) (by first | rfl | assumption | (simp only [*]; done)) (by first | exact hg.2.2.2.1 | exact rfl) ?_
  refine gp_icc (t := 41) dX2_giveFrom_37 (by decide) c2_lt (fun h1 => ?_) (fun h1 => ?_)
  · have h1' := Int32.not_le.mpr h1
    exact hcont h1
  · have h1' := Int32.not_lt.mp h1
    refine gp_vret dX2_giveFrom_40 rfl ?_
    exact hend h1

set_option maxHeartbeats 400000 in
theorem lp_cg78 (d : Nat) (k0 : 0 < k) (hk : k ≤ 5) (hS8 : S ≤ 8) (hT : ∀ c s, c < k → s < S → wi (T c s) 0 999) {met sum most least : Int32} {n i : Nat} {x : Int32} {g : Nat → Int32} {p : yP} (hi : i + (n + 1) = k) (hok : y_ok i sum most least) (hcall : ∀ (met sum most least : Int32) (g : Nat → Int32) (p : yP) (J : pI), y_ok (i + 1) sum most least → y_bo p → gvC I T S k law p (i + 1) g J → cP d 13 [.ref 67, .int (nI i + 1), .int met, .int sum, .int most, .int least] (mm_sh, mm_R, J, L) (pX none L (gvC I T S k law (y_gv law T S n (i + 1) met sum most least g p) (i + 1) g))) : ∀ (m s : Nat) (v8 : Option Value) (J : pI), s + m = S → y_bo (y_fo (y_gs law T S n i met sum most least g) s p) → gvC I T S k law (y_fo (y_gs law T S n i met sum most least g) s p) i g J → gP mm_cs0 (d) 2 false none cX2_giveFrom 78 [some (.ref 67), some (.int (nI i)), some (.int met), some (.int sum), some (.int most), some (.int least), some (.int x), some (.int (nI s)), v8] [] (mm_sh, mm_R, J, L) (pX none L (gvC I T S k law (y_fo (y_gs law T S n i met sum most least g) S p) i g)) := by
  intro m
  induction m with
  | zero =>
    intro s v8 J hs hbo hg
    obtain rfl : s = S := by omega
    have hc1 : nI s ≤ nI s := Int32.le_refl _
    refine gp_iload dX2_giveFrom_78 rfl ?_
    refine gp_aload_n dX2_giveFrom_80 rfl ?_
    refine gp_giv dX2_giveFrom_81 mf_2_34 (by decide) (by first | rfl | assumption | (simp only [*]; done)) (by first | exact hg.2.2.1.2.2 | exact rfl) ?_
    refine gp_icc (t := 155) dX2_giveFrom_84 (by decide) c2_ge (fun h1 => ?_) (fun h1 => ?_)
    · have h1' := Int32.not_lt.mpr h1
      refine gp_vret dX2_giveFrom_155 rfl ?_
      exact pX.mk rfl hg
    · exact absurd hc1 h1
  | succ m ih =>
    intro s v8 J hs hbo hg
    have hc1 : ¬ nI S ≤ nI s := nI_ge (by omega) (by omega)
    have zq8 := nI_8 (i := i) (s := s) (by omega) (by omega)
    have zqt : J 68 (nI i * 8 + nI s).toNatClampNeg = T i s := by rw [zq8.2.1, zq8.2.2.2]; exact hg.2.1 i (by omega) s (by omega)
    have zqok := y_ok_s hok (by omega) (hT i s (by omega) (by omega))
    have zqi : mm_in (nI i) 5 = true := mm_in_5.mpr ⟨nI_pos' (by omega), nI_lt (b := 5) (by omega) (by omega)⟩
    refine gp_iload dX2_giveFrom_78 rfl ?_
    refine gp_aload_n dX2_giveFrom_80 rfl ?_
    refine gp_giv dX2_giveFrom_81 mf_2_34 (by decide) (by first | rfl | assumption | (simp only [*]; done)) (by first | exact hg.2.2.1.2.2 | exact rfl) ?_
    refine gp_icc (t := 155) dX2_giveFrom_84 (by decide) c2_ge (fun h1 => ?_) (fun h1 => ?_)
    · exact absurd h1 hc1
    · have h1' := Int32.not_le.mp h1
      (try simp only [Classical.not_not] at h1)
      refine gp_iload_n dX2_giveFrom_87 rfl ?_
      refine gp_iload dX2_giveFrom_88 rfl ?_
      refine gp_pu (st' := .int _ :: _) dX2_giveFrom_90 rfl ?_
      refine gp_pu (st' := .int (1) :: _) dX2_giveFrom_91 rfl ?_
      refine gp_pu (st' := .int _ :: _) dX2_giveFrom_92 rfl ?_
      refine gp_ifc (t := 149) dX2_giveFrom_93 (by decide) c1_ne (fun h2 => ?_) (fun h2 => ?_)
      · (try simp only [Classical.not_not] at h2)
        refine gp_iinc (v := (1)) (ls' := [some (.ref _), some (.int _), some (.int _), some (.int _), some (.int _), some (.int _), some (.int _), some (.int _), _]) dX2_giveFrom_149 rfl (by decide) rfl ?_
        refine gp_goto (t := 78) dX2_giveFrom_152 (by decide) ?_
        (rw [nI_1]
         first | exact ih (s + 1) _ _ (by omega) (by rw [y_fo]; exact y_bo_gs k0 hk hT hi (by omega) hok hbo) (by rw [y_fo, y_gs_t ((and1_01 _).resolve_left h2)]; exact hg) | exact ih (s + 1) _ _ (by omega) (by rw [y_fo]; exact y_bo_gs k0 hk hT hi (by omega) hok hbo) (zqk1.nx (by rw [h2]; decide)))
      · (try simp only [Classical.not_not] at h2)
        refine gp_aload_n dX2_giveFrom_96 rfl ?_
        refine gp_gr dX2_giveFrom_97 mf_2_9 rfl (by first | rfl | assumption | (simp only [*]; done)) (by first | rfl | assumption | (simp only [*]; done)) ?_
        refine gp_iload_n dX2_giveFrom_100 rfl ?_
        refine gp_pu (st' := .int (8) :: _) dX2_giveFrom_101 rfl ?_
        refine gp_pu (st' := .int _ :: _) dX2_giveFrom_103 rfl ?_
        refine gp_iload dX2_giveFrom_104 rfl ?_
        refine gp_pu (st' := .int _ :: _) dX2_giveFrom_106 rfl ?_
        refine gp_ialv dX2_giveFrom_107 rfl (by first | rfl | assumption | (simp only [*]; done)) (by rw [zq8.2.1]; exact zq8.2.2.1) zqt ?_
        refine gp_istore (ls' := [some (.ref _), some (.int _), some (.int _), some (.int _), some (.int _), some (.int _), some (.int _), some (.int _), some (.int _)]) dX2_giveFrom_108 rfl (Nat.le_of_ble_eq_true rfl) ?_
        refine gp_aload_n dX2_giveFrom_110 rfl ?_
        refine gp_gr dX2_giveFrom_111 mf_2_15 rfl (by first | rfl | assumption | (simp only [*]; done)) (by first | rfl | assumption | (simp only [*]; done)) ?_
        refine gp_iload_n dX2_giveFrom_114 rfl ?_
        refine gp_iload dX2_giveFrom_115 rfl ?_
        refine gp_ias dX2_giveFrom_117 (by first | rfl | assumption | (simp only [*]; done)) zqi ?_
        refine gp_aload_n dX2_giveFrom_118 rfl ?_
        refine gp_iload_n dX2_giveFrom_119 rfl ?_
        refine gp_pu (st' := .int (1) :: _) dX2_giveFrom_120 rfl ?_
        refine gp_pu (st' := .int _ :: _) dX2_giveFrom_121 rfl ?_
        refine gp_iload_n dX2_giveFrom_122 rfl ?_
        refine gp_pu (st' := .int (1) :: _) dX2_giveFrom_123 rfl ?_
        refine gp_iload dX2_giveFrom_124 rfl ?_
        refine gp_pu (st' := .int _ :: _) dX2_giveFrom_126 rfl ?_
        refine gp_pu (st' := .int _ :: _) dX2_giveFrom_127 rfl ?_
        refine gp_iload_n dX2_giveFrom_128 rfl ?_
        refine gp_iload dX2_giveFrom_129 rfl ?_
        refine gp_pu (st' := .int _ :: _) dX2_giveFrom_131 rfl ?_
        refine gp_iload dX2_giveFrom_132 rfl ?_
        refine gp_iload dX2_giveFrom_134 rfl ?_
        refine gp_bi (kind := 0) (args := [.int _, .int _]) (rest := _) dX2_giveFrom_136 (Or.inl ⟨rfl, rfl⟩) mk_2_53 (by decide) rfl rfl rfl rfl rfl rfl ?_
        refine gp_iload dX2_giveFrom_139 rfl ?_
        refine gp_iload dX2_giveFrom_141 rfl ?_
        refine gp_bi (kind := 0) (args := [.int _, .int _]) (rest := _) dX2_giveFrom_143 (Or.inl ⟨rfl, rfl⟩) mk_2_25 (by decide) rfl rfl rfl rfl rfl rfl ?_
        refine gp_callX (kind := 0) (args := [.ref _, .int _, .int _, .int _, .int _, .int _]) (rest := _) dX2_giveFrom_146 (Or.inl ⟨rfl, rfl⟩) mk_2_43 (by decide) me_13 rfl rfl rfl rfl rfl rfl (hcall _ _ _ _ (yu g i (nI s)) (y_fo (y_gs law T S n i met sum most least g) s p) _ zqok hbo (by rw [nI_clamp (by omega)]; exact hg.gv (nI s))) ?_
        intro K1 zqk1
        refine gp_iinc (v := (1)) (ls' := [some (.ref _), some (.int _), some (.int _), some (.int _), some (.int _), some (.int _), some (.int _), some (.int _), some (.int _)]) dX2_giveFrom_149 rfl (by decide) rfl ?_
        refine gp_goto (t := 78) dX2_giveFrom_152 (by decide) ?_
        (rw [nI_1]
         first | exact ih (s + 1) _ _ (by omega) (by rw [y_fo]; exact y_bo_gs k0 hk hT hi (by omega) hok hbo) (by rw [y_fo, y_gs_t ((and1_01 _).resolve_left h2)]; exact hg) | exact ih (s + 1) _ _ (by omega) (by rw [y_fo]; exact y_bo_gs k0 hk hT hi (by omega) hok hbo) (zqk1.nx (by rw [h2]; decide)))

set_option maxHeartbeats 400000 in
theorem ct_giveFrom (k0 : 0 < k) (hk : k ≤ 5) (hS8 : S ≤ 8) (hT : ∀ c s, c < k → s < S → wi (T c s) 0 999) (n : Nat) : ∀ (d i : Nat) (met sum most least : Int32) (g : Nat → Int32) (p : yP) (J : pI), i + n = k → y_ok i sum most least → y_bo p → gvC I T S k law p i g J → cP (d + n + 1) 13 [.ref 67, .int (nI i), .int met, .int sum, .int most, .int least] (mm_sh, mm_R, J, L) (pX none L (gvC I T S k law (y_gv law T S n i met sum most least g p) i g)) := by
  induction n with
  | zero =>
    intro d i met sum most least g p J hi hok hbo hg
    obtain rfl : i = k := by omega
    have hall : ∀ x, x = y_va law sum most least → gP mm_cs0 (d + 0) 2 false none cX2_giveFrom 29 [some (.ref 67), some (.int (nI i)), some (.int met), some (.int sum), some (.int most), some (.int least), none, none, none] [.int x] (mm_sh, mm_R, J, L) (pX none L (gvC I T S i law (y_gv law T S 0 i met sum most least g p) i g)) := by
      intro x hx
      have hxw : wi x (-999) 4995 := by rw [hx]; exact (y_va_w hok (by omega) law).1
      refine dn_cg29 _ hg (fun hlt => ?_) (fun hge => pX.mk rfl ?_)
      · have e : y_gv law T S 0 i met sum most least g p = (x, g) := by rw [hx]; exact if_neg (by rw [← hx]; exact (y_le_b hbo hxw).mp hlt)
        have hx0 := (y_va_w hok (by omega) law).2 (by omega)
        rw [e]
        refine (dn_cg41 _ hk (x := x) hg).mono (fun r M q => ?_)
        obtain ⟨q1, J', q2, q3⟩ := q
        have hx1 : ¬ x = -1 := fun z => by rw [← hx, z, ti_n1] at hx0; omega
        refine ⟨q1, J', q2, ?_⟩
        show gvD I T S i law (y_le (x, g)) (if x = -1 then 0 else i) g i g J'
        rw [show y_le (x, g) = x from if_neg hx1, if_neg hx1]
        exact q3
      · have h := Classical.not_not.mp (fun q => hge ((y_le_b hbo hxw).mpr q))
        rw [y_gv_id hk hT _ _ _ _ _ _ _ p hi hok h.1 (by rw [← hx]; exact h.2)]
        exact hg
    refine cP.of_gP (d := d + 0) me_13 ⟨Nat.le_of_ble_eq_true rfl, rfl⟩ ?_
    show gP mm_cs0 _ _ _ _ _ _ [some (.ref _), some (.int _), some (.int _), some (.int _), some (.int _), some (.int _), none, none, none] [] _ _
    refine gp_aload_n dX2_giveFrom_0 rfl ?_
    refine gp_giv dX2_giveFrom_1 mf_2_21 (by decide) (by first | rfl | assumption | (simp only [*]; done)) (by first | exact hg.2.2.1.1 | exact rfl) ?_
    refine gp_ifc (t := 11) dX2_giveFrom_4 (by decide) c1_ne (fun h1 => ?_) (fun h1 => ?_)
    · (try simp only [Classical.not_not] at h1)
      refine gp_aload_n dX2_giveFrom_11 rfl ?_
      refine gp_giv dX2_giveFrom_12 mf_2_21 (by decide) (by first | rfl | assumption | (simp only [*]; done)) (by first | exact hg.2.2.1.1 | exact rfl) ?_
      refine gp_pu (st' := .int (1) :: _) dX2_giveFrom_15 rfl ?_
      refine gp_icc (t := 24) dX2_giveFrom_16 (by decide) c2_ne (fun h2 => ?_) (fun h2 => ?_)
      · (try simp only [Classical.not_not] at h2)
        refine gp_iload dX2_giveFrom_24 rfl ?_
        refine gp_iload dX2_giveFrom_26 rfl ?_
        refine gp_pu (st' := .int _ :: _) dX2_giveFrom_28 rfl ?_
        exact hall _ (by unfold y_va; first | rw [if_pos h1] | rw [if_neg h1, if_pos h2] | rw [if_neg h1, if_neg h2])
      · (try simp only [Classical.not_not] at h2)
        refine gp_iload dX2_giveFrom_19 rfl ?_
        refine gp_goto (t := 29) dX2_giveFrom_21 (by decide) ?_
        exact hall _ (by unfold y_va; first | rw [if_pos h1] | rw [if_neg h1, if_pos h2] | rw [if_neg h1, if_neg h2])
    · (try simp only [Classical.not_not] at h1)
      refine gp_iload_n dX2_giveFrom_7 rfl ?_
      refine gp_goto (t := 29) dX2_giveFrom_8 (by decide) ?_
      exact hall _ (by unfold y_va; first | rw [if_pos h1] | rw [if_neg h1, if_pos h2] | rw [if_neg h1, if_neg h2])
  | succ n ih =>
    intro d i met sum most least g p J hi hok hbo hg
    have hall : ∀ x, x = y_va law sum most least → gP mm_cs0 (d + (n + 1)) 2 false none cX2_giveFrom 29 [some (.ref 67), some (.int (nI i)), some (.int met), some (.int sum), some (.int most), some (.int least), none, none, none] [.int x] (mm_sh, mm_R, J, L) (pX none L (gvC I T S k law (y_gv law T S (n + 1) i met sum most least g p) i g)) := by
      intro x hx
      have hxw : wi x (-999) 4995 := by rw [hx]; exact (y_va_w hok (by omega) law).1
      refine dn_cg29 _ hg (fun hlt => ?_) (fun hge => pX.mk rfl ?_)
      · have hc1 : ¬ nI k ≤ nI i := nI_ge (by omega) (by omega)
        have hc5 : nI i < 5 := nI_lt (b := 5) (by omega) (by omega)
        refine gp_iload_n dX2_giveFrom_41 rfl ?_
        refine gp_aload_n dX2_giveFrom_42 rfl ?_
        refine gp_giv dX2_giveFrom_43 mf_2_31 (by decide) (by first | rfl | assumption | (simp only [*]; done)) (by first | exact hg.2.2.1.2.1 | exact rfl) ?_
        refine gp_icc (t := 54) dX2_giveFrom_46 (by decide) c2_ge (fun h1 => ?_) (fun h1 => ?_)
        · exact absurd h1 hc1
        · have h1' := Int32.not_le.mp h1
          refine gp_iload_n dX2_giveFrom_49 rfl ?_
          refine gp_pu (st' := .int (5) :: _) dX2_giveFrom_50 rfl ?_
          refine gp_icc (t := 75) dX2_giveFrom_51 (by decide) c2_lt (fun h2 => ?_) (fun h2 => ?_)
          · have h2' := Int32.not_le.mpr h2
            refine gp_pu (st' := .int (0) :: _) dX2_giveFrom_75 rfl ?_
            refine gp_istore (ls' := [some (.ref _), some (.int _), some (.int _), some (.int _), some (.int _), some (.int _), some (.int _), some (.int _), none]) dX2_giveFrom_76 rfl (Nat.le_of_ble_eq_true rfl) ?_
            exact lp_cg78 (d + (n + 1)) k0 hk hS8 hT hi hok (fun met sum most least g p J h1 h2 h3 => by rw [nI_1]; exact ih d (i + 1) met sum most least g p J (by omega) h1 h2 h3) S 0 _ J (by omega) hbo hg
          · exact absurd hc5 h2
      · have h := Classical.not_not.mp (fun q => hge ((y_le_b hbo hxw).mpr q))
        rw [y_gv_id hk hT _ _ _ _ _ _ _ p hi hok h.1 (by rw [← hx]; exact h.2)]
        exact hg
    refine cP.of_gP (d := d + (n + 1)) me_13 ⟨Nat.le_of_ble_eq_true rfl, rfl⟩ ?_
    show gP mm_cs0 _ _ _ _ _ _ [some (.ref _), some (.int _), some (.int _), some (.int _), some (.int _), some (.int _), none, none, none] [] _ _
    refine gp_aload_n dX2_giveFrom_0 rfl ?_
    refine gp_giv dX2_giveFrom_1 mf_2_21 (by decide) (by first | rfl | assumption | (simp only [*]; done)) (by first | exact hg.2.2.1.1 | exact rfl) ?_
    refine gp_ifc (t := 11) dX2_giveFrom_4 (by decide) c1_ne (fun h1 => ?_) (fun h1 => ?_)
    · (try simp only [Classical.not_not] at h1)
      refine gp_aload_n dX2_giveFrom_11 rfl ?_
      refine gp_giv dX2_giveFrom_12 mf_2_21 (by decide) (by first | rfl | assumption | (simp only [*]; done)) (by first | exact hg.2.2.1.1 | exact rfl) ?_
      refine gp_pu (st' := .int (1) :: _) dX2_giveFrom_15 rfl ?_
      refine gp_icc (t := 24) dX2_giveFrom_16 (by decide) c2_ne (fun h2 => ?_) (fun h2 => ?_)
      · (try simp only [Classical.not_not] at h2)
        refine gp_iload dX2_giveFrom_24 rfl ?_
        refine gp_iload dX2_giveFrom_26 rfl ?_
        refine gp_pu (st' := .int _ :: _) dX2_giveFrom_28 rfl ?_
        exact hall _ (by unfold y_va; first | rw [if_pos h1] | rw [if_neg h1, if_pos h2] | rw [if_neg h1, if_neg h2])
      · (try simp only [Classical.not_not] at h2)
        refine gp_iload dX2_giveFrom_19 rfl ?_
        refine gp_goto (t := 29) dX2_giveFrom_21 (by decide) ?_
        exact hall _ (by unfold y_va; first | rw [if_pos h1] | rw [if_neg h1, if_pos h2] | rw [if_neg h1, if_neg h2])
    · (try simp only [Classical.not_not] at h1)
      refine gp_iload_n dX2_giveFrom_7 rfl ?_
      refine gp_goto (t := 29) dX2_giveFrom_8 (by decide) ?_
      exact hall _ (by unfold y_va; first | rw [if_pos h1] | rw [if_neg h1, if_pos h2] | rw [if_neg h1, if_neg h2])

def y_g0 : Nat → Int32 := fun _ => 0
def y_p0 : yP := (-1, y_g0)
theorem gvC_0 (hs : sc I J) (ht : ∀ c, c < k → ∀ s, s < S → J 68 (8 * c + s) = T c s) {a b : Int32} (ha : a = nI k) (hb : b = nI S) : gvC I T S k law y_p0 0 y_g0 (mm_u (mm_u (mm_u (mm_u J 67 4 law) 67 5 a) 67 6 b) 67 3 2147483647) := by
  refine ⟨(((hs.u rfl).u rfl).u rfl).u rfl, fun c hc s hs => ?_, ⟨?_, ?_, ?_⟩, ?_, fun j hj => ?_, fun j hj => absurd hj (Nat.not_lt_zero j)⟩
  · rw [mm_u_o _ _ _ _ (by decide), mm_u_o _ _ _ _ (by decide), mm_u_o _ _ _ _ (by decide), mm_u_o _ _ _ _ (by decide)]; exact ht c hc s hs
  · rw [mm_u_j _ _ (by decide), mm_u_j _ _ (by decide), mm_u_j _ _ (by decide), mm_u_s]
  · rw [mm_u_j _ _ (by decide), mm_u_j _ _ (by decide), mm_u_s]; exact ha
  · rw [mm_u_j _ _ (by decide), mm_u_s]; exact hb
  · rw [mm_u_s]; rfl
  · have hj : j < (if y_p0.1 = -1 then 0 else k) := hj
    rw [if_pos (show y_p0.1 = -1 from rfl)] at hj
    exact absurd hj (Nat.not_lt_zero j)
theorem y_ok_0 : y_ok 0 0 0 999 := ⟨⟨by decide, by decide⟩, ⟨by decide, by decide⟩, ⟨by decide, by decide⟩, Or.inl rfl⟩
theorem min_nI {x b : Nat} (h : x ≤ b) (hb : b ≤ 2000) : (if nI b < nI x then nI b else nI x) = nI x := if_neg (Int32.not_lt.mpr (nI_le h (by omega)))

set_option maxHeartbeats 400000 in
theorem ct_find (d : Nat) (k0 : 0 < k) (hk : k ≤ 5) (hS8 : S ≤ 8) (hT : ∀ c s, c < k → s < S → wi (T c s) 0 999) (hs : sc I J) (ht : ∀ c, c < k → ∀ s, s < S → J 68 (8 * c + s) = T c s) : cP (d + k + 2) 12 [.ref 67, .int law, .int (nI k), .int (nI S)] (mm_sh, mm_R, J, L) (pX none L (gvC I T S k law (y_gv law T S k 0 0 0 0 999 y_g0 y_p0) 0 y_g0)) := by
  refine cP.of_gP (d := d + k + 1) me_12 ⟨Nat.le_of_ble_eq_true rfl, rfl⟩ ?_
  show gP mm_cs0 _ _ _ _ _ _ [some (.ref _), some (.int _), some (.int _), some (.int _)] [] _ _
  refine gp_aload_n dX2_find_0 rfl ?_
  refine gp_iload_n dX2_find_1 rfl ?_
  refine gp_pi dX2_find_2 mf_2_21 rfl rfl (by first | rfl | assumption | (simp only [*]; done)) ?_
  refine gp_aload_n dX2_find_5 rfl ?_
  refine gp_iload_n dX2_find_6 rfl ?_
  refine gp_pu (st' := .int (5) :: _) dX2_find_7 rfl ?_
  refine gp_bi (kind := 0) (args := [.int _, .int _]) (rest := _) dX2_find_8 (Or.inl ⟨rfl, rfl⟩) mk_2_25 (by decide) rfl rfl rfl rfl rfl rfl ?_
  refine gp_pi dX2_find_11 mf_2_31 rfl rfl (by first | rfl | assumption | (simp only [*]; done)) ?_
  refine gp_aload_n dX2_find_14 rfl ?_
  refine gp_iload_n dX2_find_15 rfl ?_
  refine gp_pu (st' := .int (8) :: _) dX2_find_16 rfl ?_
  refine gp_bi (kind := 0) (args := [.int _, .int _]) (rest := _) dX2_find_18 (Or.inl ⟨rfl, rfl⟩) mk_2_25 (by decide) rfl rfl rfl rfl rfl rfl ?_
  refine gp_pi dX2_find_21 mf_2_34 rfl rfl (by first | rfl | assumption | (simp only [*]; done)) ?_
  refine gp_aload_n dX2_find_24 rfl ?_
  refine gp_ldc dX2_find_25 rfl ?_
  refine gp_pi dX2_find_27 mf_2_40 rfl rfl (by first | rfl | assumption | (simp only [*]; done)) ?_
  refine gp_aload_n dX2_find_30 rfl ?_
  refine gp_pu (st' := .int (0) :: _) dX2_find_31 rfl ?_
  refine gp_pu (st' := .int (0) :: _) dX2_find_32 rfl ?_
  refine gp_pu (st' := .int (0) :: _) dX2_find_33 rfl ?_
  refine gp_pu (st' := .int (0) :: _) dX2_find_34 rfl ?_
  refine gp_pu (st' := .int (999) :: _) dX2_find_35 rfl ?_
  refine gp_callX (kind := 0) (args := [.ref _, .int _, .int _, .int _, .int _, .int _]) (rest := _) dX2_find_38 (Or.inl ⟨rfl, rfl⟩) mk_2_43 (by decide) me_13 rfl rfl rfl rfl rfl rfl (ct_giveFrom k0 hk hS8 hT k d 0 0 0 0 999 y_g0 y_p0 _ (by omega) y_ok_0 (Or.inl rfl) (gvC_0 hs ht (min_nI (b := 5) hk (by omega)) (min_nI (b := 8) hS8 (by omega)))) ?_
  intro K1 zqk1
  refine gp_vret dX2_find_41 rfl ?_
  exact pX.mk rfl zqk1

set_option maxHeartbeats 400000 in
theorem ct_tell (d : Nat) {c s : Nat} (hc : c < 5) (hs : s < 8) (x : Int32) : cP (d + 1) 11 [.ref 67, .int (nI c), .int (nI s), .int x] (mm_sh, mm_R, J, L) (pX none L (fun K => K = mm_u J 68 (8 * c + s) x)) := by
  have zq8 := nI_8 hc hs
  have zqa : ¬ nI c < 0 := nI_pos (by omega)
  have zqb : ¬ (5 : Int32) ≤ nI c := nI_ge (b := 5) hc (by omega)
  have zqc : ¬ nI s < 0 := nI_pos (by omega)
  have zqd : ¬ (8 : Int32) ≤ nI s := nI_ge (b := 8) hs (by omega)
  refine cP.of_gP (d := d + 0) me_11 ⟨Nat.le_of_ble_eq_true rfl, rfl⟩ ?_
  show gP mm_cs0 _ _ _ _ _ _ [some (.ref _), some (.int _), some (.int _), some (.int _)] [] _ _
  refine gp_iload_n dX2_tell_0 rfl ?_
  refine gp_ifc (t := 31) dX2_tell_1 (by decide) c1_lt (fun h1 => ?_) (fun h1 => ?_)
  · exact absurd h1 zqa
  · have h1' := Int32.not_lt.mp h1
    refine gp_iload_n dX2_tell_4 rfl ?_
    refine gp_pu (st' := .int (5) :: _) dX2_tell_5 rfl ?_
    refine gp_icc (t := 31) dX2_tell_6 (by decide) c2_ge (fun h2 => ?_) (fun h2 => ?_)
    · exact absurd h2 zqb
    · have h2' := Int32.not_le.mp h2
      refine gp_iload_n dX2_tell_9 rfl ?_
      refine gp_ifc (t := 31) dX2_tell_10 (by decide) c1_lt (fun h3 => ?_) (fun h3 => ?_)
      · exact absurd h3 zqc
      · have h3' := Int32.not_lt.mp h3
        refine gp_iload_n dX2_tell_13 rfl ?_
        refine gp_pu (st' := .int (8) :: _) dX2_tell_14 rfl ?_
        refine gp_icc (t := 31) dX2_tell_16 (by decide) c2_ge (fun h4 => ?_) (fun h4 => ?_)
        · exact absurd h4 zqd
        · have h4' := Int32.not_le.mp h4
          refine gp_aload_n dX2_tell_19 rfl ?_
          refine gp_gr dX2_tell_20 mf_2_9 rfl (by first | rfl | assumption | (simp only [*]; done)) (by first | rfl | assumption | (simp only [*]; done)) ?_
          refine gp_iload_n dX2_tell_23 rfl ?_
          refine gp_pu (st' := .int (8) :: _) dX2_tell_24 rfl ?_
          refine gp_pu (st' := .int _ :: _) dX2_tell_26 rfl ?_
          refine gp_iload_n dX2_tell_27 rfl ?_
          refine gp_pu (st' := .int _ :: _) dX2_tell_28 rfl ?_
          refine gp_iload_n dX2_tell_29 rfl ?_
          refine gp_ias dX2_tell_30 (by first | rfl | assumption | (simp only [*]; done)) (by rw [zq8.2.1]; exact zq8.2.2.1) ?_
          refine gp_vret dX2_tell_31 rfl ?_
          exact pX.mk rfl (by rw [zq8.2.1, zq8.2.2.2])
end P98s
