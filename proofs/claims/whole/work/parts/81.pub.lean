/-! PUBLIC METHODS: copy (reference) -/
section P81
variable {I C J : pI} {L : pL} {N S : Nat}

def c1 (K : pL) (A t : Nat) : pL := fun a b => if a = 123 ∧ b < t then K 122 (A + b) else K a b
def c2 (K : pL) (B t : Nat) : pL := fun a b => if a = 122 ∧ B ≤ b ∧ b < B + t then K 123 (b - B) else K a b
theorem c1_0 (K : pL) (A : Nat) : c1 K A 0 = K := by
  funext a b
  exact if_neg (by omega)
theorem c2_0 (K : pL) (B : Nat) : c2 K B 0 = K := by
  funext a b
  exact if_neg (by omega)
theorem c1_s (K : pL) (A t : Nat) : mm_u (c1 K A t) 123 t (c1 K A t 122 (A + t)) = c1 K A (t + 1) := by
  funext a b
  rw [mm_u_ig]
  unfold c1
  rw [if_neg (show ¬ ((122 : Nat) = 123 ∧ A + t < t) by omega)]
  by_cases h : a = 123 ∧ b = t
  · rw [if_pos h, if_pos (by omega), h.2]
  · rw [if_neg h]
    by_cases h2 : a = 123 ∧ b < t
    · rw [if_pos h2, if_pos (by omega)]
    · rw [if_neg h2, if_neg (by omega)]
theorem c2_s (K : pL) (B t : Nat) : mm_u (c2 K B t) 122 (B + t) (c2 K B t 123 t) = c2 K B (t + 1) := by
  funext a b
  rw [mm_u_ig]
  unfold c2
  rw [if_neg (show ¬ ((123 : Nat) = 122 ∧ B ≤ t ∧ t < B + t) by omega)]
  by_cases h : a = 122 ∧ b = B + t
  · rw [if_pos h, if_pos (by omega), h.2, show B + t - B = t by omega]
  · rw [if_neg h]
    by_cases h2 : a = 122 ∧ B ≤ b ∧ b < B + t
    · rw [if_pos h2, if_pos (by omega)]
    · rw [if_neg h2, if_neg (by omega)]
def g_cp (p q i j n : Int32) (K : pL) : pL := c2 (c1 K (160 * p.toNatClampNeg + i.toNatClampNeg) n.toNatClampNeg) (160 * q.toNatClampNeg + j.toNatClampNeg) n.toNatClampNeg
theorem pl_3 {s i : Int32} (h : 0 ≤ s ∧ s < 8) (h0 : ¬ i < 0) {t : Nat} (h1 : i.toInt + t < 160) : mm_in (160 * s + i + nI t) 1280 = true ∧ (160 * s + i + nI t).toNatClampNeg = 160 * s.toNatClampNeg + i.toNatClampNeg + t := by
  have s5 := (sh_s h).2.2.2.2
  have ei : nI i.toNatClampNeg = i := nI_cl (Int32.not_lt.mp h0)
  have hi : i.toNatClampNeg + t < 160 := by
    rw [ti_lt, ti_0] at h0
    unfold Int32.toNatClampNeg
    omega
  have e := (pl_n h (i := i.toNatClampNeg + t) hi)
  rw [← nI_add, ei, ← Int32.add_assoc] at e
  rw [Nat.add_assoc]
  exact e

set_option maxHeartbeats 400000 in
theorem lp_cp2 (d : Nat) (hsJ : mR I C J) {p q i j n : Int32} (M : Nat) (hn : n = nI M) (hM : M ≤ 160) (hq : 0 ≤ q ∧ q < 8) (hj : ¬ j < 0) (hjn : j.toInt + M ≤ 160) : ∀ (k t : Nat), t + k = M → gP mm_cs0 d 9 false (some .int) cX9_copy 205 [some (.ref 108), some (.int p), some (.int q), some (.int i), some (.int j), some (.int n), some (.int (nI t))] [] (mm_sh, mm_R, J, (c2 L (160 * q.toNatClampNeg + j.toNatClampNeg) t)) (pX (some (.int 1)) (c2 L (160 * q.toNatClampNeg + j.toNatClampNeg) M) (mR I C)) := by
  intro k
  induction k with
  | zero =>
    intro t ht
    obtain rfl : t = M := by omega
    have hc1 : n ≤ nI t := by rw [hn]; exact Int32.le_refl _
    refine gp_iload dX9_copy_205 rfl ?_
    refine gp_iload dX9_copy_207 rfl ?_
    refine gp_icc (t := 241) dX9_copy_209 (by decide) c2_ge (fun h1 => ?_) (fun h1 => ?_)
    · have h1' := Int32.not_lt.mpr h1
      refine gp_pu (st' := .int (1) :: _) dX9_copy_241 rfl ?_
      refine gp_iret dX9_copy_242 rfl ?_
      exact pX.mk rfl hsJ
    · exact absurd hc1 h1
  | succ k ih =>
    intro t ht
    have hc1 : ¬ n ≤ nI t := by rw [hn]; exact nI_ge (by omega) (by omega)
    have zqt : mm_in (nI t) 160 = true := mm_in_160.mpr ⟨nI_pos' (by omega), nI_lt (b := 160) (by omega) (by omega)⟩
    obtain ⟨zqp1, zqp2⟩ := pl_3 (i := j) (t := t) hq hj (by omega)
    refine gp_iload dX9_copy_205 rfl ?_
    refine gp_iload dX9_copy_207 rfl ?_
    refine gp_icc (t := 241) dX9_copy_209 (by decide) c2_ge (fun h1 => ?_) (fun h1 => ?_)
    · exact absurd h1 hc1
    · have h1' := Int32.not_le.mp h1
      refine gp_aload_n dX9_copy_212 rfl ?_
      refine gp_gr dX9_copy_213 mf_9_68 rfl (by first | rfl | assumption | (simp only [*]; done)) (by first | rfl | assumption | (simp only [*]; done)) ?_
      refine gp_pu (st' := .int (160) :: _) dX9_copy_216 rfl ?_
      refine gp_iload_n dX9_copy_219 rfl ?_
      refine gp_pu (st' := .int _ :: _) dX9_copy_220 rfl ?_
      refine gp_iload dX9_copy_221 rfl ?_
      refine gp_pu (st' := .int _ :: _) dX9_copy_223 rfl ?_
      refine gp_iload dX9_copy_224 rfl ?_
      refine gp_pu (st' := .int _ :: _) dX9_copy_226 rfl ?_
      refine gp_aload_n dX9_copy_227 rfl ?_
      refine gp_gr dX9_copy_228 mf_9_72 rfl (by first | rfl | assumption | (simp only [*]; done)) (by first | rfl | assumption | (simp only [*]; done)) ?_
      refine gp_iload dX9_copy_231 rfl ?_
      refine gp_lal dX9_copy_233 (by first | rfl | assumption | (simp only [*]; done)) zqt ?_
      refine gp_las dX9_copy_234 (by first | rfl | assumption | (simp only [*]; done)) zqp1 ?_
      refine gp_iinc (v := (1)) (ls' := [some (.ref _), some (.int _), some (.int _), some (.int _), some (.int _), some (.int _), some (.int _)]) dX9_copy_235 rfl (by decide) rfl ?_
      refine gp_goto (t := 205) dX9_copy_238 (by decide) ?_
      (rw [zqp2, nI_clamp (by omega), c2_s, nI_1]
       exact ih (t + 1) (by omega))

set_option maxHeartbeats 400000 in
theorem lp_cp1 (d : Nat) (hsJ : mR I C J) {p q i j n : Int32} (M : Nat) (hn : n = nI M) (hM : M ≤ 160) (hp : 0 ≤ p ∧ p < 8) (hi : ¬ i < 0) (hin : i.toInt + M ≤ 160) (hq : 0 ≤ q ∧ q < 8) (hj : ¬ j < 0) (hjn : j.toInt + M ≤ 160) : ∀ (k t : Nat), t + k = M → gP mm_cs0 d 9 false (some .int) cX9_copy 167 [some (.ref 108), some (.int p), some (.int q), some (.int i), some (.int j), some (.int n), some (.int (nI t))] [] (mm_sh, mm_R, J, (c1 L (160 * p.toNatClampNeg + i.toNatClampNeg) t)) (pX (some (.int 1)) (c2 (c1 L (160 * p.toNatClampNeg + i.toNatClampNeg) M) (160 * q.toNatClampNeg + j.toNatClampNeg) M) (mR I C)) := by
  intro k
  induction k with
  | zero =>
    intro t ht
    obtain rfl : t = M := by omega
    have hc1 : n ≤ nI t := by rw [hn]; exact Int32.le_refl _
    refine gp_iload dX9_copy_167 rfl ?_
    refine gp_iload dX9_copy_169 rfl ?_
    refine gp_icc (t := 202) dX9_copy_171 (by decide) c2_ge (fun h1 => ?_) (fun h1 => ?_)
    · have h1' := Int32.not_lt.mpr h1
      refine gp_pu (st' := .int (0) :: _) dX9_copy_202 rfl ?_
      refine gp_istore (ls' := [some (.ref _), some (.int _), some (.int _), some (.int _), some (.int _), some (.int _), some (.int _)]) dX9_copy_203 rfl (Nat.le_of_ble_eq_true rfl) ?_
      (have h2 := lp_cp2 d (I := I) (C := C) (J := J) (L := c1 L (160 * p.toNatClampNeg + i.toNatClampNeg) t) hsJ (p := p) (i := i) t hn hM hq hj hjn t 0 (by omega)
       rw [c2_0] at h2
       exact h2)
    · exact absurd hc1 h1
  | succ k ih =>
    intro t ht
    have hc1 : ¬ n ≤ nI t := by rw [hn]; exact nI_ge (by omega) (by omega)
    have zqt : mm_in (nI t) 160 = true := mm_in_160.mpr ⟨nI_pos' (by omega), nI_lt (b := 160) (by omega) (by omega)⟩
    obtain ⟨zqp1, zqp2⟩ := pl_3 (i := i) (t := t) hp hi (by omega)
    refine gp_iload dX9_copy_167 rfl ?_
    refine gp_iload dX9_copy_169 rfl ?_
    refine gp_icc (t := 202) dX9_copy_171 (by decide) c2_ge (fun h1 => ?_) (fun h1 => ?_)
    · exact absurd h1 hc1
    · have h1' := Int32.not_le.mp h1
      refine gp_aload_n dX9_copy_174 rfl ?_
      refine gp_gr dX9_copy_175 mf_9_72 rfl (by first | rfl | assumption | (simp only [*]; done)) (by first | rfl | assumption | (simp only [*]; done)) ?_
      refine gp_iload dX9_copy_178 rfl ?_
      refine gp_aload_n dX9_copy_180 rfl ?_
      refine gp_gr dX9_copy_181 mf_9_68 rfl (by first | rfl | assumption | (simp only [*]; done)) (by first | rfl | assumption | (simp only [*]; done)) ?_
      refine gp_pu (st' := .int (160) :: _) dX9_copy_184 rfl ?_
      refine gp_iload_n dX9_copy_187 rfl ?_
      refine gp_pu (st' := .int _ :: _) dX9_copy_188 rfl ?_
      refine gp_iload_n dX9_copy_189 rfl ?_
      refine gp_pu (st' := .int _ :: _) dX9_copy_190 rfl ?_
      refine gp_iload dX9_copy_191 rfl ?_
      refine gp_pu (st' := .int _ :: _) dX9_copy_193 rfl ?_
      refine gp_lal dX9_copy_194 (by first | rfl | assumption | (simp only [*]; done)) zqp1 ?_
      refine gp_las dX9_copy_195 (by first | rfl | assumption | (simp only [*]; done)) zqt ?_
      refine gp_iinc (v := (1)) (ls' := [some (.ref _), some (.int _), some (.int _), some (.int _), some (.int _), some (.int _), some (.int _)]) dX9_copy_196 rfl (by decide) rfl ?_
      refine gp_goto (t := 167) dX9_copy_199 (by decide) ?_
      (rw [zqp2, nI_clamp (by omega), c1_s, nI_1]
       exact ih (t + 1) (by omega))

set_option maxHeartbeats 400000 in
theorem ml_copy (d : Nat) (v : vN I N S) (hs : mR I C J) (hS : ∀ s, s < 8 → rSh I s) {p q i j n : Int32} : cP (d + 2) 135 [.ref 108, .int p, .int q, .int i, .int j, .int n] (mm_sh, mm_R, J, L) (pX (some (.int (vq (w_cp I p q i j n) 1))) (lL (w_cp I p q i j n) (g_cp p q i j n L) L) (mR (uM (w_cp I p q i j n) I I) C)) := by
  have m0 : J 108 0 = nI N := (hs.r (by decide)).trans v.2.2.1
  have m1 : J 108 1 = nI S := (hs.r (by decide)).trans v.2.2.2.1
  refine cP.of_gP (d := d + 1) me_135 ⟨Nat.le_of_ble_eq_true rfl, rfl⟩ ?_
  show gP mm_cs0 _ _ _ _ _ _ [some (.ref _), some (.int _), some (.int _), some (.int _), some (.int _), some (.int _), none] [] _ _
  refine gp_aload_n dX9_copy_0 rfl ?_
  refine gp_iload_n dX9_copy_1 rfl ?_
  refine gp_call (kind := 1) (args := [.ref _, .int _]) (rest := _) dX9_copy_2 (Or.inr (Or.inl ⟨rfl, rfl⟩)) mk_9_123 (by decide) me_129 rfl rfl rfl rfl rfl (mm_rc_of (by first | rfl | assumption | (simp only [*]; done))) (ok_X9_isShelf _ _ _ _) rfl ?_
  refine gp_ifc (t := 16) dX9_copy_5 (by decide) c1_eq (fun h1 => ?_) (fun h1 => ?_)
  · (try simp only [bi_0, Classical.not_not] at h1)
    refine gp_aload_n dX9_copy_16 rfl ?_
    refine gp_pu (st' := .int (-1) :: _) dX9_copy_17 rfl ?_
    refine gp_call (kind := 1) (args := [.ref _, .int _]) (rest := _) dX9_copy_18 (Or.inr (Or.inl ⟨rfl, rfl⟩)) mk_9_127 (by decide) me_127 rfl rfl rfl rfl rfl (mm_rc_of (by first | rfl | assumption | (simp only [*]; done))) (ok_X9_no _ _ _ _ (by decide)) rfl ?_
    refine gp_iret dX9_copy_21 rfl ?_
    first | (refine uMo ?zqa ?zqc hs; (case zqa => (first | ((simp [w_cp, *]; done)) | (exfalso; first | contradiction | (simp_all; done)))); (case zqc => (unfold isW; decide)))
  · (try simp only [bi_0, Classical.not_not] at h1)
    refine gp_aload_n dX9_copy_8 rfl ?_
    refine gp_iload_n dX9_copy_9 rfl ?_
    refine gp_call (kind := 1) (args := [.ref _, .int _]) (rest := _) dX9_copy_10 (Or.inr (Or.inl ⟨rfl, rfl⟩)) mk_9_123 (by decide) me_129 rfl rfl rfl rfl rfl (mm_rc_of (by first | rfl | assumption | (simp only [*]; done))) (ok_X9_isShelf _ _ _ _) rfl ?_
    refine gp_ifc (t := 22) dX9_copy_13 (by decide) c1_ne (fun h2 => ?_) (fun h2 => ?_)
    · (try simp only [bi_0, Classical.not_not] at h2)
      have zqs1 := (sh_s (s := p) h1).1
      have zqt1 := (sh_s (s := q) h2).1
      have zqsp := hS _ (sh_s (s := p) h1).2.2.2.2
      have zqsq := hS _ (sh_s (s := q) h2).2.2.2.2
      refine gp_aload_n dX9_copy_22 rfl ?_
      refine gp_gr dX9_copy_23 mf_9_56 rfl (by first | rfl | assumption | (simp only [*]; done)) (by first | rfl | assumption | (simp only [*]; done)) ?_
      refine gp_iload_n dX9_copy_26 rfl ?_
      refine gp_ialv dX9_copy_27 rfl (by first | rfl | assumption | (simp only [*]; done)) (by first | rfl | assumption | (simp only [*]; done)) (by first | exact hs.1 _ _ rfl | exact rfl) ?_
      refine gp_pu (st' := .int (2) :: _) dX9_copy_28 rfl ?_
      refine gp_icc (t := 77) dX9_copy_29 (by decide) c2_eq (fun h3 => ?_) (fun h3 => ?_)
      · (try simp only [bi_0, Classical.not_not] at h3)
        refine gp_aload_n dX9_copy_77 rfl ?_
        refine gp_pu (st' := .int (-2) :: _) dX9_copy_78 rfl ?_
        refine gp_call (kind := 1) (args := [.ref _, .int _]) (rest := _) dX9_copy_80 (Or.inr (Or.inl ⟨rfl, rfl⟩)) mk_9_127 (by decide) me_127 rfl rfl rfl rfl rfl (mm_rc_of (by first | rfl | assumption | (simp only [*]; done))) (ok_X9_no _ _ _ _ (by decide)) rfl ?_
        refine gp_iret dX9_copy_83 rfl ?_
        first | (refine uMo ?zqa ?zqc hs; (case zqa => (first | ((simp [w_cp, *]; done)) | (exfalso; first | contradiction | (simp_all; done)))); (case zqc => (unfold isW; decide)))
      · (try simp only [bi_0, Classical.not_not] at h3)
        refine gp_aload_n dX9_copy_32 rfl ?_
        refine gp_gr dX9_copy_33 mf_9_56 rfl (by first | rfl | assumption | (simp only [*]; done)) (by first | rfl | assumption | (simp only [*]; done)) ?_
        refine gp_iload_n dX9_copy_36 rfl ?_
        refine gp_ialv dX9_copy_37 rfl (by first | rfl | assumption | (simp only [*]; done)) (by first | rfl | assumption | (simp only [*]; done)) (by first | exact hs.1 _ _ rfl | exact rfl) ?_
        refine gp_pu (st' := .int (2) :: _) dX9_copy_38 rfl ?_
        refine gp_icc (t := 77) dX9_copy_39 (by decide) c2_eq (fun h4 => ?_) (fun h4 => ?_)
        · (try simp only [bi_0, Classical.not_not] at h4)
          refine gp_aload_n dX9_copy_77 rfl ?_
          refine gp_pu (st' := .int (-2) :: _) dX9_copy_78 rfl ?_
          refine gp_call (kind := 1) (args := [.ref _, .int _]) (rest := _) dX9_copy_80 (Or.inr (Or.inl ⟨rfl, rfl⟩)) mk_9_127 (by decide) me_127 rfl rfl rfl rfl rfl (mm_rc_of (by first | rfl | assumption | (simp only [*]; done))) (ok_X9_no _ _ _ _ (by decide)) rfl ?_
          refine gp_iret dX9_copy_83 rfl ?_
          first | (refine uMo ?zqa ?zqc hs; (case zqa => (first | ((simp [w_cp, *]; done)) | (exfalso; first | contradiction | (simp_all; done)))); (case zqc => (unfold isW; decide)))
        · (try simp only [bi_0, Classical.not_not] at h4)
          refine gp_aload_n dX9_copy_42 rfl ?_
          refine gp_gr dX9_copy_43 mf_9_56 rfl (by first | rfl | assumption | (simp only [*]; done)) (by first | rfl | assumption | (simp only [*]; done)) ?_
          refine gp_iload_n dX9_copy_46 rfl ?_
          refine gp_ialv dX9_copy_47 rfl (by first | rfl | assumption | (simp only [*]; done)) (by first | rfl | assumption | (simp only [*]; done)) (by first | exact hs.1 _ _ rfl | exact rfl) ?_
          refine gp_pu (st' := .int (1) :: _) dX9_copy_48 rfl ?_
          refine gp_icc (t := 84) dX9_copy_49 (by decide) c2_ne (fun h5 => ?_) (fun h5 => ?_)
          · (try simp only [bi_0, Classical.not_not] at h5)
            refine gp_aload_n dX9_copy_84 rfl ?_
            refine gp_gr dX9_copy_85 mf_9_56 rfl (by first | rfl | assumption | (simp only [*]; done)) (by first | rfl | assumption | (simp only [*]; done)) ?_
            refine gp_iload_n dX9_copy_88 rfl ?_
            refine gp_ialv dX9_copy_89 rfl (by first | rfl | assumption | (simp only [*]; done)) (by first | rfl | assumption | (simp only [*]; done)) (by first | exact hs.1 _ _ rfl | exact rfl) ?_
            refine gp_ifc (t := 102) dX9_copy_90 (by decide) c1_eq (fun h6 => ?_) (fun h6 => ?_)
            · (try simp only [bi_0, Classical.not_not] at h6)
              refine gp_aload_n dX9_copy_102 rfl ?_
              refine gp_pu (st' := .int (-3) :: _) dX9_copy_103 rfl ?_
              refine gp_call (kind := 1) (args := [.ref _, .int _]) (rest := _) dX9_copy_105 (Or.inr (Or.inl ⟨rfl, rfl⟩)) mk_9_127 (by decide) me_127 rfl rfl rfl rfl rfl (mm_rc_of (by first | rfl | assumption | (simp only [*]; done))) (ok_X9_no _ _ _ _ (by decide)) rfl ?_
              refine gp_iret dX9_copy_108 rfl ?_
              first | (refine uMo ?zqa ?zqc hs; (case zqa => (first | ((simp [w_cp, *]; done)) | (exfalso; first | contradiction | (simp_all; done)))); (case zqc => (unfold isW; decide)))
            · (try simp only [bi_0, Classical.not_not] at h6)
              refine gp_aload_n dX9_copy_93 rfl ?_
              refine gp_gr dX9_copy_94 mf_9_56 rfl (by first | rfl | assumption | (simp only [*]; done)) (by first | rfl | assumption | (simp only [*]; done)) ?_
              refine gp_iload_n dX9_copy_97 rfl ?_
              refine gp_ialv dX9_copy_98 rfl (by first | rfl | assumption | (simp only [*]; done)) (by first | rfl | assumption | (simp only [*]; done)) (by first | exact hs.1 _ _ rfl | exact rfl) ?_
              refine gp_ifc (t := 109) dX9_copy_99 (by decide) c1_ne (fun h7 => ?_) (fun h7 => ?_)
              · (try simp only [bi_0, Classical.not_not] at h7)
                refine gp_iload dX9_copy_109 rfl ?_
                refine gp_ifc (t := 121) dX9_copy_111 (by decide) c1_ge (fun h8 => ?_) (fun h8 => ?_)
                · have h8' := Int32.not_lt.mpr h8
                  (try simp only [bi_0, Classical.not_not] at h8)
                  refine gp_iload_n dX9_copy_121 rfl ?_
                  refine gp_ifc (t := 157) dX9_copy_122 (by decide) c1_lt (fun h9 => ?_) (fun h9 => ?_)
                  · have h9' := Int32.not_le.mpr h9
                    (try simp only [bi_0, Classical.not_not] at h9)
                    refine gp_aload_n dX9_copy_157 rfl ?_
                    refine gp_pu (st' := .int (-5) :: _) dX9_copy_158 rfl ?_
                    refine gp_call (kind := 1) (args := [.ref _, .int _]) (rest := _) dX9_copy_160 (Or.inr (Or.inl ⟨rfl, rfl⟩)) mk_9_127 (by decide) me_127 rfl rfl rfl rfl rfl (mm_rc_of (by first | rfl | assumption | (simp only [*]; done))) (ok_X9_no _ _ _ _ (by decide)) rfl ?_
                    refine gp_iret dX9_copy_163 rfl ?_
                    first | (refine uMo ?zqa ?zqc hs; (case zqa => (first | ((simp [w_cp, *]; done)) | (exfalso; first | contradiction | (simp_all; done)))); (case zqc => (unfold isW; decide)))
                  · have h9' := Int32.not_lt.mp h9
                    (try simp only [bi_0, Classical.not_not] at h9)
                    refine gp_iload dX9_copy_125 rfl ?_
                    refine gp_ifc (t := 157) dX9_copy_127 (by decide) c1_lt (fun h10 => ?_) (fun h10 => ?_)
                    · have h10' := Int32.not_le.mpr h10
                      (try simp only [bi_0, Classical.not_not] at h10)
                      refine gp_aload_n dX9_copy_157 rfl ?_
                      refine gp_pu (st' := .int (-5) :: _) dX9_copy_158 rfl ?_
                      refine gp_call (kind := 1) (args := [.ref _, .int _]) (rest := _) dX9_copy_160 (Or.inr (Or.inl ⟨rfl, rfl⟩)) mk_9_127 (by decide) me_127 rfl rfl rfl rfl rfl (mm_rc_of (by first | rfl | assumption | (simp only [*]; done))) (ok_X9_no _ _ _ _ (by decide)) rfl ?_
                      refine gp_iret dX9_copy_163 rfl ?_
                      first | (refine uMo ?zqa ?zqc hs; (case zqa => (first | ((simp [w_cp, *]; done)) | (exfalso; first | contradiction | (simp_all; done)))); (case zqc => (unfold isW; decide)))
                    · have h10' := Int32.not_lt.mp h10
                      (try simp only [bi_0, Classical.not_not] at h10)
                      refine gp_iload_n dX9_copy_130 rfl ?_
                      refine gp_aload_n dX9_copy_131 rfl ?_
                      refine gp_gr dX9_copy_132 mf_9_62 rfl (by first | rfl | assumption | (simp only [*]; done)) (by first | rfl | assumption | (simp only [*]; done)) ?_
                      refine gp_iload_n dX9_copy_135 rfl ?_
                      refine gp_ialv dX9_copy_136 rfl (by first | rfl | assumption | (simp only [*]; done)) (by first | rfl | assumption | (simp only [*]; done)) (by first | exact hs.1 _ _ rfl | exact rfl) ?_
                      refine gp_iload dX9_copy_137 rfl ?_
                      refine gp_pu (st' := .int _ :: _) dX9_copy_139 rfl ?_
                      refine gp_icc (t := 157) dX9_copy_140 (by decide) c2_gt (fun h11 => ?_) (fun h11 => ?_)
                      · have h11' := Int32.not_le.mpr h11
                        (try simp only [bi_0, Classical.not_not] at h11)
                        refine gp_aload_n dX9_copy_157 rfl ?_
                        refine gp_pu (st' := .int (-5) :: _) dX9_copy_158 rfl ?_
                        refine gp_call (kind := 1) (args := [.ref _, .int _]) (rest := _) dX9_copy_160 (Or.inr (Or.inl ⟨rfl, rfl⟩)) mk_9_127 (by decide) me_127 rfl rfl rfl rfl rfl (mm_rc_of (by first | rfl | assumption | (simp only [*]; done))) (ok_X9_no _ _ _ _ (by decide)) rfl ?_
                        refine gp_iret dX9_copy_163 rfl ?_
                        first | (refine uMo ?zqa ?zqc hs; (case zqa => (first | ((simp [w_cp, *]; done)) | (exfalso; first | contradiction | (simp_all; done)))); (case zqc => (unfold isW; decide)))
                      · have h11' := Int32.not_lt.mp h11
                        (try simp only [bi_0, Classical.not_not] at h11)
                        refine gp_iload dX9_copy_143 rfl ?_
                        refine gp_aload_n dX9_copy_145 rfl ?_
                        refine gp_gr dX9_copy_146 mf_9_62 rfl (by first | rfl | assumption | (simp only [*]; done)) (by first | rfl | assumption | (simp only [*]; done)) ?_
                        refine gp_iload_n dX9_copy_149 rfl ?_
                        refine gp_ialv dX9_copy_150 rfl (by first | rfl | assumption | (simp only [*]; done)) (by first | rfl | assumption | (simp only [*]; done)) (by first | exact hs.1 _ _ rfl | exact rfl) ?_
                        refine gp_iload dX9_copy_151 rfl ?_
                        refine gp_pu (st' := .int _ :: _) dX9_copy_153 rfl ?_
                        refine gp_icc (t := 164) dX9_copy_154 (by decide) c2_le (fun h12 => ?_) (fun h12 => ?_)
                        · have h12' := Int32.not_lt.mpr h12
                          (try simp only [bi_0, Classical.not_not] at h12)
                          refine gp_pu (st' := .int (0) :: _) dX9_copy_164 rfl ?_
                          refine gp_istore (ls' := [some (.ref _), some (.int _), some (.int _), some (.int _), some (.int _), some (.int _), some (.int _)]) dX9_copy_165 rfl (Nat.le_of_ble_eq_true rfl) ?_
                          (have hw : w_cp I p q i j n = 0 := by first | (simp [w_cp, *]; done) | (simp_all [w_cp]; done)
                           obtain ⟨z1, z2, z3, z4, z5, z6, z7, z8, z9⟩ := w_cp_0 hS hw
                           obtain ⟨y1, y2⟩ := cp_in (sh_1z zqsp z3).2 z5 z6 z8
                           obtain ⟨x1, x2⟩ := cp_in (sh_1z zqsq z4).2 z5 z7 z9
                           have en := nI_cl (Int32.not_lt.mp z5)
                           have et : (n.toNatClampNeg : Int) = n.toInt := by
                            rw [ti_lt, ti_0] at z5
                            unfold Int32.toNatClampNeg
                            omega
                           have h := lp_cp1 (d + 1) (I := I) (C := C) (J := J) (L := L) hs (p := p) (q := q) (i := i) (j := j) (n := n) n.toNatClampNeg en.symm (by omega) z1 z6 (by omega) z2 z7 (by omega) n.toNatClampNeg 0 (by omega)
                           rw [c1_0] at h
                           rw [hw]
                           exact h)
                        · have h12' := Int32.not_le.mp h12
                          (try simp only [bi_0, Classical.not_not] at h12)
                          refine gp_aload_n dX9_copy_157 rfl ?_
                          refine gp_pu (st' := .int (-5) :: _) dX9_copy_158 rfl ?_
                          refine gp_call (kind := 1) (args := [.ref _, .int _]) (rest := _) dX9_copy_160 (Or.inr (Or.inl ⟨rfl, rfl⟩)) mk_9_127 (by decide) me_127 rfl rfl rfl rfl rfl (mm_rc_of (by first | rfl | assumption | (simp only [*]; done))) (ok_X9_no _ _ _ _ (by decide)) rfl ?_
                          refine gp_iret dX9_copy_163 rfl ?_
                          first | (refine uMo ?zqa ?zqc hs; (case zqa => (first | ((simp [w_cp, *]; done)) | (exfalso; first | contradiction | (simp_all; done)))); (case zqc => (unfold isW; decide)))
                · have h8' := Int32.not_le.mp h8
                  (try simp only [bi_0, Classical.not_not] at h8)
                  refine gp_aload_n dX9_copy_114 rfl ?_
                  refine gp_pu (st' := .int (-4) :: _) dX9_copy_115 rfl ?_
                  refine gp_call (kind := 1) (args := [.ref _, .int _]) (rest := _) dX9_copy_117 (Or.inr (Or.inl ⟨rfl, rfl⟩)) mk_9_127 (by decide) me_127 rfl rfl rfl rfl rfl (mm_rc_of (by first | rfl | assumption | (simp only [*]; done))) (ok_X9_no _ _ _ _ (by decide)) rfl ?_
                  refine gp_iret dX9_copy_120 rfl ?_
                  first | (refine uMo ?zqa ?zqc hs; (case zqa => (first | ((simp [w_cp, *]; done)) | (exfalso; first | contradiction | (simp_all; done)))); (case zqc => (unfold isW; decide)))
              · (try simp only [bi_0, Classical.not_not] at h7)
                refine gp_aload_n dX9_copy_102 rfl ?_
                refine gp_pu (st' := .int (-3) :: _) dX9_copy_103 rfl ?_
                refine gp_call (kind := 1) (args := [.ref _, .int _]) (rest := _) dX9_copy_105 (Or.inr (Or.inl ⟨rfl, rfl⟩)) mk_9_127 (by decide) me_127 rfl rfl rfl rfl rfl (mm_rc_of (by first | rfl | assumption | (simp only [*]; done))) (ok_X9_no _ _ _ _ (by decide)) rfl ?_
                refine gp_iret dX9_copy_108 rfl ?_
                first | (refine uMo ?zqa ?zqc hs; (case zqa => (first | ((simp [w_cp, *]; done)) | (exfalso; first | contradiction | (simp_all; done)))); (case zqc => (unfold isW; decide)))
          · (try simp only [bi_0, Classical.not_not] at h5)
            refine gp_aload_n dX9_copy_52 rfl ?_
            refine gp_gr dX9_copy_53 mf_9_56 rfl (by first | rfl | assumption | (simp only [*]; done)) (by first | rfl | assumption | (simp only [*]; done)) ?_
            refine gp_iload_n dX9_copy_56 rfl ?_
            refine gp_ialv dX9_copy_57 rfl (by first | rfl | assumption | (simp only [*]; done)) (by first | rfl | assumption | (simp only [*]; done)) (by first | exact hs.1 _ _ rfl | exact rfl) ?_
            refine gp_pu (st' := .int (1) :: _) dX9_copy_58 rfl ?_
            refine gp_icc (t := 84) dX9_copy_59 (by decide) c2_ne (fun h13 => ?_) (fun h13 => ?_)
            · (try simp only [bi_0, Classical.not_not] at h13)
              refine gp_aload_n dX9_copy_84 rfl ?_
              refine gp_gr dX9_copy_85 mf_9_56 rfl (by first | rfl | assumption | (simp only [*]; done)) (by first | rfl | assumption | (simp only [*]; done)) ?_
              refine gp_iload_n dX9_copy_88 rfl ?_
              refine gp_ialv dX9_copy_89 rfl (by first | rfl | assumption | (simp only [*]; done)) (by first | rfl | assumption | (simp only [*]; done)) (by first | exact hs.1 _ _ rfl | exact rfl) ?_
              refine gp_ifc (t := 102) dX9_copy_90 (by decide) c1_eq (fun h14 => ?_) (fun h14 => ?_)
              · (try simp only [bi_0, Classical.not_not] at h14)
                refine gp_aload_n dX9_copy_102 rfl ?_
                refine gp_pu (st' := .int (-3) :: _) dX9_copy_103 rfl ?_
                refine gp_call (kind := 1) (args := [.ref _, .int _]) (rest := _) dX9_copy_105 (Or.inr (Or.inl ⟨rfl, rfl⟩)) mk_9_127 (by decide) me_127 rfl rfl rfl rfl rfl (mm_rc_of (by first | rfl | assumption | (simp only [*]; done))) (ok_X9_no _ _ _ _ (by decide)) rfl ?_
                refine gp_iret dX9_copy_108 rfl ?_
                first | (refine uMo ?zqa ?zqc hs; (case zqa => (first | ((simp [w_cp, *]; done)) | (exfalso; first | contradiction | (simp_all; done)))); (case zqc => (unfold isW; decide)))
              · (try simp only [bi_0, Classical.not_not] at h14)
                refine gp_aload_n dX9_copy_93 rfl ?_
                refine gp_gr dX9_copy_94 mf_9_56 rfl (by first | rfl | assumption | (simp only [*]; done)) (by first | rfl | assumption | (simp only [*]; done)) ?_
                refine gp_iload_n dX9_copy_97 rfl ?_
                refine gp_ialv dX9_copy_98 rfl (by first | rfl | assumption | (simp only [*]; done)) (by first | rfl | assumption | (simp only [*]; done)) (by first | exact hs.1 _ _ rfl | exact rfl) ?_
                refine gp_ifc (t := 109) dX9_copy_99 (by decide) c1_ne (fun h15 => ?_) (fun h15 => ?_)
                · (try simp only [bi_0, Classical.not_not] at h15)
                  refine gp_iload dX9_copy_109 rfl ?_
                  refine gp_ifc (t := 121) dX9_copy_111 (by decide) c1_ge (fun h16 => ?_) (fun h16 => ?_)
                  · have h16' := Int32.not_lt.mpr h16
                    (try simp only [bi_0, Classical.not_not] at h16)
                    refine gp_iload_n dX9_copy_121 rfl ?_
                    refine gp_ifc (t := 157) dX9_copy_122 (by decide) c1_lt (fun h17 => ?_) (fun h17 => ?_)
                    · have h17' := Int32.not_le.mpr h17
                      (try simp only [bi_0, Classical.not_not] at h17)
                      refine gp_aload_n dX9_copy_157 rfl ?_
                      refine gp_pu (st' := .int (-5) :: _) dX9_copy_158 rfl ?_
                      refine gp_call (kind := 1) (args := [.ref _, .int _]) (rest := _) dX9_copy_160 (Or.inr (Or.inl ⟨rfl, rfl⟩)) mk_9_127 (by decide) me_127 rfl rfl rfl rfl rfl (mm_rc_of (by first | rfl | assumption | (simp only [*]; done))) (ok_X9_no _ _ _ _ (by decide)) rfl ?_
                      refine gp_iret dX9_copy_163 rfl ?_
                      first | (refine uMo ?zqa ?zqc hs; (case zqa => (first | ((simp [w_cp, *]; done)) | (exfalso; first | contradiction | (simp_all; done)))); (case zqc => (unfold isW; decide)))
                    · have h17' := Int32.not_lt.mp h17
                      (try simp only [bi_0, Classical.not_not] at h17)
                      refine gp_iload dX9_copy_125 rfl ?_
                      refine gp_ifc (t := 157) dX9_copy_127 (by decide) c1_lt (fun h18 => ?_) (fun h18 => ?_)
                      · have h18' := Int32.not_le.mpr h18
                        (try simp only [bi_0, Classical.not_not] at h18)
                        refine gp_aload_n dX9_copy_157 rfl ?_
                        refine gp_pu (st' := .int (-5) :: _) dX9_copy_158 rfl ?_
                        refine gp_call (kind := 1) (args := [.ref _, .int _]) (rest := _) dX9_copy_160 (Or.inr (Or.inl ⟨rfl, rfl⟩)) mk_9_127 (by decide) me_127 rfl rfl rfl rfl rfl (mm_rc_of (by first | rfl | assumption | (simp only [*]; done))) (ok_X9_no _ _ _ _ (by decide)) rfl ?_
                        refine gp_iret dX9_copy_163 rfl ?_
                        first | (refine uMo ?zqa ?zqc hs; (case zqa => (first | ((simp [w_cp, *]; done)) | (exfalso; first | contradiction | (simp_all; done)))); (case zqc => (unfold isW; decide)))
                      · have h18' := Int32.not_lt.mp h18
                        (try simp only [bi_0, Classical.not_not] at h18)
                        refine gp_iload_n dX9_copy_130 rfl ?_
                        refine gp_aload_n dX9_copy_131 rfl ?_
                        refine gp_gr dX9_copy_132 mf_9_62 rfl (by first | rfl | assumption | (simp only [*]; done)) (by first | rfl | assumption | (simp only [*]; done)) ?_
                        refine gp_iload_n dX9_copy_135 rfl ?_
                        refine gp_ialv dX9_copy_136 rfl (by first | rfl | assumption | (simp only [*]; done)) (by first | rfl | assumption | (simp only [*]; done)) (by first | exact hs.1 _ _ rfl | exact rfl) ?_
                        refine gp_iload dX9_copy_137 rfl ?_
                        refine gp_pu (st' := .int _ :: _) dX9_copy_139 rfl ?_
                        refine gp_icc (t := 157) dX9_copy_140 (by decide) c2_gt (fun h19 => ?_) (fun h19 => ?_)
                        · have h19' := Int32.not_le.mpr h19
                          (try simp only [bi_0, Classical.not_not] at h19)
                          refine gp_aload_n dX9_copy_157 rfl ?_
                          refine gp_pu (st' := .int (-5) :: _) dX9_copy_158 rfl ?_
                          refine gp_call (kind := 1) (args := [.ref _, .int _]) (rest := _) dX9_copy_160 (Or.inr (Or.inl ⟨rfl, rfl⟩)) mk_9_127 (by decide) me_127 rfl rfl rfl rfl rfl (mm_rc_of (by first | rfl | assumption | (simp only [*]; done))) (ok_X9_no _ _ _ _ (by decide)) rfl ?_
                          refine gp_iret dX9_copy_163 rfl ?_
                          first | (refine uMo ?zqa ?zqc hs; (case zqa => (first | ((simp [w_cp, *]; done)) | (exfalso; first | contradiction | (simp_all; done)))); (case zqc => (unfold isW; decide)))
                        · have h19' := Int32.not_lt.mp h19
                          (try simp only [bi_0, Classical.not_not] at h19)
                          refine gp_iload dX9_copy_143 rfl ?_
                          refine gp_aload_n dX9_copy_145 rfl ?_
                          refine gp_gr dX9_copy_146 mf_9_62 rfl (by first | rfl | assumption | (simp only [*]; done)) (by first | rfl | assumption | (simp only [*]; done)) ?_
                          refine gp_iload_n dX9_copy_149 rfl ?_
                          refine gp_ialv dX9_copy_150 rfl (by first | rfl | assumption | (simp only [*]; done)) (by first | rfl | assumption | (simp only [*]; done)) (by first | exact hs.1 _ _ rfl | exact rfl) ?_
                          refine gp_iload dX9_copy_151 rfl ?_
                          refine gp_pu (st' := .int _ :: _) dX9_copy_153 rfl ?_
                          refine gp_icc (t := 164) dX9_copy_154 (by decide) c2_le (fun h20 => ?_) (fun h20 => ?_)
                          · have h20' := Int32.not_lt.mpr h20
                            (try simp only [bi_0, Classical.not_not] at h20)
                            refine gp_pu (st' := .int (0) :: _) dX9_copy_164 rfl ?_
                            refine gp_istore (ls' := [some (.ref _), some (.int _), some (.int _), some (.int _), some (.int _), some (.int _), some (.int _)]) dX9_copy_165 rfl (Nat.le_of_ble_eq_true rfl) ?_
                            (have hw : w_cp I p q i j n = 0 := by first | (simp [w_cp, *]; done) | (simp_all [w_cp]; done)
                             obtain ⟨z1, z2, z3, z4, z5, z6, z7, z8, z9⟩ := w_cp_0 hS hw
                             obtain ⟨y1, y2⟩ := cp_in (sh_1z zqsp z3).2 z5 z6 z8
                             obtain ⟨x1, x2⟩ := cp_in (sh_1z zqsq z4).2 z5 z7 z9
                             have en := nI_cl (Int32.not_lt.mp z5)
                             have et : (n.toNatClampNeg : Int) = n.toInt := by
                              rw [ti_lt, ti_0] at z5
                              unfold Int32.toNatClampNeg
                              omega
                             have h := lp_cp1 (d + 1) (I := I) (C := C) (J := J) (L := L) hs (p := p) (q := q) (i := i) (j := j) (n := n) n.toNatClampNeg en.symm (by omega) z1 z6 (by omega) z2 z7 (by omega) n.toNatClampNeg 0 (by omega)
                             rw [c1_0] at h
                             rw [hw]
                             exact h)
                          · have h20' := Int32.not_le.mp h20
                            (try simp only [bi_0, Classical.not_not] at h20)
                            refine gp_aload_n dX9_copy_157 rfl ?_
                            refine gp_pu (st' := .int (-5) :: _) dX9_copy_158 rfl ?_
                            refine gp_call (kind := 1) (args := [.ref _, .int _]) (rest := _) dX9_copy_160 (Or.inr (Or.inl ⟨rfl, rfl⟩)) mk_9_127 (by decide) me_127 rfl rfl rfl rfl rfl (mm_rc_of (by first | rfl | assumption | (simp only [*]; done))) (ok_X9_no _ _ _ _ (by decide)) rfl ?_
                            refine gp_iret dX9_copy_163 rfl ?_
                            first | (refine uMo ?zqa ?zqc hs; (case zqa => (first | ((simp [w_cp, *]; done)) | (exfalso; first | contradiction | (simp_all; done)))); (case zqc => (unfold isW; decide)))
                  · have h16' := Int32.not_le.mp h16
                    (try simp only [bi_0, Classical.not_not] at h16)
                    refine gp_aload_n dX9_copy_114 rfl ?_
                    refine gp_pu (st' := .int (-4) :: _) dX9_copy_115 rfl ?_
                    refine gp_call (kind := 1) (args := [.ref _, .int _]) (rest := _) dX9_copy_117 (Or.inr (Or.inl ⟨rfl, rfl⟩)) mk_9_127 (by decide) me_127 rfl rfl rfl rfl rfl (mm_rc_of (by first | rfl | assumption | (simp only [*]; done))) (ok_X9_no _ _ _ _ (by decide)) rfl ?_
                    refine gp_iret dX9_copy_120 rfl ?_
                    first | (refine uMo ?zqa ?zqc hs; (case zqa => (first | ((simp [w_cp, *]; done)) | (exfalso; first | contradiction | (simp_all; done)))); (case zqc => (unfold isW; decide)))
                · (try simp only [bi_0, Classical.not_not] at h15)
                  refine gp_aload_n dX9_copy_102 rfl ?_
                  refine gp_pu (st' := .int (-3) :: _) dX9_copy_103 rfl ?_
                  refine gp_call (kind := 1) (args := [.ref _, .int _]) (rest := _) dX9_copy_105 (Or.inr (Or.inl ⟨rfl, rfl⟩)) mk_9_127 (by decide) me_127 rfl rfl rfl rfl rfl (mm_rc_of (by first | rfl | assumption | (simp only [*]; done))) (ok_X9_no _ _ _ _ (by decide)) rfl ?_
                  refine gp_iret dX9_copy_108 rfl ?_
                  first | (refine uMo ?zqa ?zqc hs; (case zqa => (first | ((simp [w_cp, *]; done)) | (exfalso; first | contradiction | (simp_all; done)))); (case zqc => (unfold isW; decide)))
            · (try simp only [bi_0, Classical.not_not] at h13)
              refine gp_aload_n dX9_copy_62 rfl ?_
              refine gp_gr dX9_copy_63 mf_9_59 rfl (by first | rfl | assumption | (simp only [*]; done)) (by first | rfl | assumption | (simp only [*]; done)) ?_
              refine gp_iload_n dX9_copy_66 rfl ?_
              refine gp_ialv dX9_copy_67 rfl (by first | rfl | assumption | (simp only [*]; done)) (by first | rfl | assumption | (simp only [*]; done)) (by first | exact hs.1 _ _ rfl | exact rfl) ?_
              refine gp_aload_n dX9_copy_68 rfl ?_
              refine gp_gr dX9_copy_69 mf_9_59 rfl (by first | rfl | assumption | (simp only [*]; done)) (by first | rfl | assumption | (simp only [*]; done)) ?_
              refine gp_iload_n dX9_copy_72 rfl ?_
              refine gp_ialv dX9_copy_73 rfl (by first | rfl | assumption | (simp only [*]; done)) (by first | rfl | assumption | (simp only [*]; done)) (by first | exact hs.1 _ _ rfl | exact rfl) ?_
              refine gp_icc (t := 84) dX9_copy_74 (by decide) c2_eq (fun h21 => ?_) (fun h21 => ?_)
              · (try simp only [bi_0, Classical.not_not] at h21)
                refine gp_aload_n dX9_copy_84 rfl ?_
                refine gp_gr dX9_copy_85 mf_9_56 rfl (by first | rfl | assumption | (simp only [*]; done)) (by first | rfl | assumption | (simp only [*]; done)) ?_
                refine gp_iload_n dX9_copy_88 rfl ?_
                refine gp_ialv dX9_copy_89 rfl (by first | rfl | assumption | (simp only [*]; done)) (by first | rfl | assumption | (simp only [*]; done)) (by first | exact hs.1 _ _ rfl | exact rfl) ?_
                refine gp_ifc (t := 102) dX9_copy_90 (by decide) c1_eq (fun h22 => ?_) (fun h22 => ?_)
                · (try simp only [bi_0, Classical.not_not] at h22)
                  refine gp_aload_n dX9_copy_102 rfl ?_
                  refine gp_pu (st' := .int (-3) :: _) dX9_copy_103 rfl ?_
                  refine gp_call (kind := 1) (args := [.ref _, .int _]) (rest := _) dX9_copy_105 (Or.inr (Or.inl ⟨rfl, rfl⟩)) mk_9_127 (by decide) me_127 rfl rfl rfl rfl rfl (mm_rc_of (by first | rfl | assumption | (simp only [*]; done))) (ok_X9_no _ _ _ _ (by decide)) rfl ?_
                  refine gp_iret dX9_copy_108 rfl ?_
                  first | (refine uMo ?zqa ?zqc hs; (case zqa => (first | ((simp [w_cp, *]; done)) | (exfalso; first | contradiction | (simp_all; done)))); (case zqc => (unfold isW; decide)))
                · (try simp only [bi_0, Classical.not_not] at h22)
                  refine gp_aload_n dX9_copy_93 rfl ?_
                  refine gp_gr dX9_copy_94 mf_9_56 rfl (by first | rfl | assumption | (simp only [*]; done)) (by first | rfl | assumption | (simp only [*]; done)) ?_
                  refine gp_iload_n dX9_copy_97 rfl ?_
                  refine gp_ialv dX9_copy_98 rfl (by first | rfl | assumption | (simp only [*]; done)) (by first | rfl | assumption | (simp only [*]; done)) (by first | exact hs.1 _ _ rfl | exact rfl) ?_
                  refine gp_ifc (t := 109) dX9_copy_99 (by decide) c1_ne (fun h23 => ?_) (fun h23 => ?_)
                  · (try simp only [bi_0, Classical.not_not] at h23)
                    refine gp_iload dX9_copy_109 rfl ?_
                    refine gp_ifc (t := 121) dX9_copy_111 (by decide) c1_ge (fun h24 => ?_) (fun h24 => ?_)
                    · have h24' := Int32.not_lt.mpr h24
                      (try simp only [bi_0, Classical.not_not] at h24)
                      refine gp_iload_n dX9_copy_121 rfl ?_
                      refine gp_ifc (t := 157) dX9_copy_122 (by decide) c1_lt (fun h25 => ?_) (fun h25 => ?_)
                      · have h25' := Int32.not_le.mpr h25
                        (try simp only [bi_0, Classical.not_not] at h25)
                        refine gp_aload_n dX9_copy_157 rfl ?_
                        refine gp_pu (st' := .int (-5) :: _) dX9_copy_158 rfl ?_
                        refine gp_call (kind := 1) (args := [.ref _, .int _]) (rest := _) dX9_copy_160 (Or.inr (Or.inl ⟨rfl, rfl⟩)) mk_9_127 (by decide) me_127 rfl rfl rfl rfl rfl (mm_rc_of (by first | rfl | assumption | (simp only [*]; done))) (ok_X9_no _ _ _ _ (by decide)) rfl ?_
                        refine gp_iret dX9_copy_163 rfl ?_
                        first | (refine uMo ?zqa ?zqc hs; (case zqa => (first | ((simp [w_cp, *]; done)) | (exfalso; first | contradiction | (simp_all; done)))); (case zqc => (unfold isW; decide)))
                      · have h25' := Int32.not_lt.mp h25
                        (try simp only [bi_0, Classical.not_not] at h25)
                        refine gp_iload dX9_copy_125 rfl ?_
                        refine gp_ifc (t := 157) dX9_copy_127 (by decide) c1_lt (fun h26 => ?_) (fun h26 => ?_)
                        · have h26' := Int32.not_le.mpr h26
                          (try simp only [bi_0, Classical.not_not] at h26)
                          refine gp_aload_n dX9_copy_157 rfl ?_
                          refine gp_pu (st' := .int (-5) :: _) dX9_copy_158 rfl ?_
                          refine gp_call (kind := 1) (args := [.ref _, .int _]) (rest := _) dX9_copy_160 (Or.inr (Or.inl ⟨rfl, rfl⟩)) mk_9_127 (by decide) me_127 rfl rfl rfl rfl rfl (mm_rc_of (by first | rfl | assumption | (simp only [*]; done))) (ok_X9_no _ _ _ _ (by decide)) rfl ?_
                          refine gp_iret dX9_copy_163 rfl ?_
                          first | (refine uMo ?zqa ?zqc hs; (case zqa => (first | ((simp [w_cp, *]; done)) | (exfalso; first | contradiction | (simp_all; done)))); (case zqc => (unfold isW; decide)))
                        · have h26' := Int32.not_lt.mp h26
                          (try simp only [bi_0, Classical.not_not] at h26)
                          refine gp_iload_n dX9_copy_130 rfl ?_
                          refine gp_aload_n dX9_copy_131 rfl ?_
                          refine gp_gr dX9_copy_132 mf_9_62 rfl (by first | rfl | assumption | (simp only [*]; done)) (by first | rfl | assumption | (simp only [*]; done)) ?_
                          refine gp_iload_n dX9_copy_135 rfl ?_
                          refine gp_ialv dX9_copy_136 rfl (by first | rfl | assumption | (simp only [*]; done)) (by first | rfl | assumption | (simp only [*]; done)) (by first | exact hs.1 _ _ rfl | exact rfl) ?_
                          refine gp_iload dX9_copy_137 rfl ?_
                          refine gp_pu (st' := .int _ :: _) dX9_copy_139 rfl ?_
                          refine gp_icc (t := 157) dX9_copy_140 (by decide) c2_gt (fun h27 => ?_) (fun h27 => ?_)
                          · have h27' := Int32.not_le.mpr h27
                            (try simp only [bi_0, Classical.not_not] at h27)
                            refine gp_aload_n dX9_copy_157 rfl ?_
                            refine gp_pu (st' := .int (-5) :: _) dX9_copy_158 rfl ?_
                            refine gp_call (kind := 1) (args := [.ref _, .int _]) (rest := _) dX9_copy_160 (Or.inr (Or.inl ⟨rfl, rfl⟩)) mk_9_127 (by decide) me_127 rfl rfl rfl rfl rfl (mm_rc_of (by first | rfl | assumption | (simp only [*]; done))) (ok_X9_no _ _ _ _ (by decide)) rfl ?_
                            refine gp_iret dX9_copy_163 rfl ?_
                            first | (refine uMo ?zqa ?zqc hs; (case zqa => (first | ((simp [w_cp, *]; done)) | (exfalso; first | contradiction | (simp_all; done)))); (case zqc => (unfold isW; decide)))
                          · have h27' := Int32.not_lt.mp h27
                            (try simp only [bi_0, Classical.not_not] at h27)
                            refine gp_iload dX9_copy_143 rfl ?_
                            refine gp_aload_n dX9_copy_145 rfl ?_
                            refine gp_gr dX9_copy_146 mf_9_62 rfl (by first | rfl | assumption | (simp only [*]; done)) (by first | rfl | assumption | (simp only [*]; done)) ?_
                            refine gp_iload_n dX9_copy_149 rfl ?_
                            refine gp_ialv dX9_copy_150 rfl (by first | rfl | assumption | (simp only [*]; done)) (by first | rfl | assumption | (simp only [*]; done)) (by first | exact hs.1 _ _ rfl | exact rfl) ?_
                            refine gp_iload dX9_copy_151 rfl ?_
                            refine gp_pu (st' := .int _ :: _) dX9_copy_153 rfl ?_
                            refine gp_icc (t := 164) dX9_copy_154 (by decide) c2_le (fun h28 => ?_) (fun h28 => ?_)
                            · have h28' := Int32.not_lt.mpr h28
                              (try simp only [bi_0, Classical.not_not] at h28)
                              refine gp_pu (st' := .int (0) :: _) dX9_copy_164 rfl ?_
                              refine gp_istore (ls' := [some (.ref _), some (.int _), some (.int _), some (.int _), some (.int _), some (.int _), some (.int _)]) dX9_copy_165 rfl (Nat.le_of_ble_eq_true rfl) ?_
                              (have hw : w_cp I p q i j n = 0 := by first | (simp [w_cp, *]; done) | (simp_all [w_cp]; done)
                               obtain ⟨z1, z2, z3, z4, z5, z6, z7, z8, z9⟩ := w_cp_0 hS hw
                               obtain ⟨y1, y2⟩ := cp_in (sh_1z zqsp z3).2 z5 z6 z8
                               obtain ⟨x1, x2⟩ := cp_in (sh_1z zqsq z4).2 z5 z7 z9
                               have en := nI_cl (Int32.not_lt.mp z5)
                               have et : (n.toNatClampNeg : Int) = n.toInt := by
                                rw [ti_lt, ti_0] at z5
                                unfold Int32.toNatClampNeg
                                omega
                               have h := lp_cp1 (d + 1) (I := I) (C := C) (J := J) (L := L) hs (p := p) (q := q) (i := i) (j := j) (n := n) n.toNatClampNeg en.symm (by omega) z1 z6 (by omega) z2 z7 (by omega) n.toNatClampNeg 0 (by omega)
                               rw [c1_0] at h
                               rw [hw]
                               exact h)
                            · have h28' := Int32.not_le.mp h28
                              (try simp only [bi_0, Classical.not_not] at h28)
                              refine gp_aload_n dX9_copy_157 rfl ?_
                              refine gp_pu (st' := .int (-5) :: _) dX9_copy_158 rfl ?_
                              refine gp_call (kind := 1) (args := [.ref _, .int _]) (rest := _) dX9_copy_160 (Or.inr (Or.inl ⟨rfl, rfl⟩)) mk_9_127 (by decide) me_127 rfl rfl rfl rfl rfl (mm_rc_of (by first | rfl | assumption | (simp only [*]; done))) (ok_X9_no _ _ _ _ (by decide)) rfl ?_
                              refine gp_iret dX9_copy_163 rfl ?_
                              first | (refine uMo ?zqa ?zqc hs; (case zqa => (first | ((simp [w_cp, *]; done)) | (exfalso; first | contradiction | (simp_all; done)))); (case zqc => (unfold isW; decide)))
                    · have h24' := Int32.not_le.mp h24
                      (try simp only [bi_0, Classical.not_not] at h24)
                      refine gp_aload_n dX9_copy_114 rfl ?_
                      refine gp_pu (st' := .int (-4) :: _) dX9_copy_115 rfl ?_
                      refine gp_call (kind := 1) (args := [.ref _, .int _]) (rest := _) dX9_copy_117 (Or.inr (Or.inl ⟨rfl, rfl⟩)) mk_9_127 (by decide) me_127 rfl rfl rfl rfl rfl (mm_rc_of (by first | rfl | assumption | (simp only [*]; done))) (ok_X9_no _ _ _ _ (by decide)) rfl ?_
                      refine gp_iret dX9_copy_120 rfl ?_
                      first | (refine uMo ?zqa ?zqc hs; (case zqa => (first | ((simp [w_cp, *]; done)) | (exfalso; first | contradiction | (simp_all; done)))); (case zqc => (unfold isW; decide)))
                  · (try simp only [bi_0, Classical.not_not] at h23)
                    refine gp_aload_n dX9_copy_102 rfl ?_
                    refine gp_pu (st' := .int (-3) :: _) dX9_copy_103 rfl ?_
                    refine gp_call (kind := 1) (args := [.ref _, .int _]) (rest := _) dX9_copy_105 (Or.inr (Or.inl ⟨rfl, rfl⟩)) mk_9_127 (by decide) me_127 rfl rfl rfl rfl rfl (mm_rc_of (by first | rfl | assumption | (simp only [*]; done))) (ok_X9_no _ _ _ _ (by decide)) rfl ?_
                    refine gp_iret dX9_copy_108 rfl ?_
                    first | (refine uMo ?zqa ?zqc hs; (case zqa => (first | ((simp [w_cp, *]; done)) | (exfalso; first | contradiction | (simp_all; done)))); (case zqc => (unfold isW; decide)))
              · (try simp only [bi_0, Classical.not_not] at h21)
                refine gp_aload_n dX9_copy_77 rfl ?_
                refine gp_pu (st' := .int (-2) :: _) dX9_copy_78 rfl ?_
                refine gp_call (kind := 1) (args := [.ref _, .int _]) (rest := _) dX9_copy_80 (Or.inr (Or.inl ⟨rfl, rfl⟩)) mk_9_127 (by decide) me_127 rfl rfl rfl rfl rfl (mm_rc_of (by first | rfl | assumption | (simp only [*]; done))) (ok_X9_no _ _ _ _ (by decide)) rfl ?_
                refine gp_iret dX9_copy_83 rfl ?_
                first | (refine uMo ?zqa ?zqc hs; (case zqa => (first | ((simp [w_cp, *]; done)) | (exfalso; first | contradiction | (simp_all; done)))); (case zqc => (unfold isW; decide)))
    · (try simp only [bi_0, Classical.not_not] at h2)
      refine gp_aload_n dX9_copy_16 rfl ?_
      refine gp_pu (st' := .int (-1) :: _) dX9_copy_17 rfl ?_
      refine gp_call (kind := 1) (args := [.ref _, .int _]) (rest := _) dX9_copy_18 (Or.inr (Or.inl ⟨rfl, rfl⟩)) mk_9_127 (by decide) me_127 rfl rfl rfl rfl rfl (mm_rc_of (by first | rfl | assumption | (simp only [*]; done))) (ok_X9_no _ _ _ _ (by decide)) rfl ?_
      refine gp_iret dX9_copy_21 rfl ?_
      first | (refine uMo ?zqa ?zqc hs; (case zqa => (first | ((simp [w_cp, *]; done)) | (exfalso; first | contradiction | (simp_all; done)))); (case zqc => (unfold isW; decide)))

theorem rL_cp (hL : rL L) {p q i j n : Int32} (hp : p.toNatClampNeg < 8) (hq : q.toNatClampNeg < 8) (hi : i.toNatClampNeg + n.toNatClampNeg ≤ 160) (hj : j.toNatClampNeg + n.toNatClampNeg ≤ 160) : rL (g_cp p q i j n (f_cp p q i j n L)) := by
  intro t ht b hb
  unfold g_cp f_cp c2 c1 mm_cy va_cpy
  have e := hL t ht b hb
  rw [if_neg (by omega : ¬ (77 + 2 * t = 122 ∧ _)), if_neg (by omega : ¬ (77 + 2 * t = 123 ∧ _))]
  by_cases z : t = q.toNatClampNeg ∧ j.toNatClampNeg ≤ b ∧ b < j.toNatClampNeg + n.toNatClampNeg
  · rw [if_pos (show 77 + 2 * t = 76 + 2 * q.toNatClampNeg + 1 by omega), if_pos z.2]
    rw [if_pos (by omega : (122 : Nat) = 122 ∧ _), if_pos (by omega : (123 : Nat) = 123 ∧ _), if_neg (by omega : ¬ (122 = 76 + 2 * q.toNatClampNeg + 1))]
    have e2 := hL p.toNatClampNeg hp (i.toNatClampNeg + (b - j.toNatClampNeg)) (by omega)
    rw [show 76 + 2 * p.toNatClampNeg + 1 = 77 + 2 * p.toNatClampNeg by omega, e2]
    congr 1
    omega
  · have hr : ¬ ((122 : Nat) = 122 ∧ 160 * q.toNatClampNeg + j.toNatClampNeg ≤ 160 * t + b ∧ 160 * t + b < 160 * q.toNatClampNeg + j.toNatClampNeg + n.toNatClampNeg) := by omega
    rw [if_neg hr, if_neg (by omega : ¬ ((122 : Nat) = 123 ∧ _)), if_neg (by omega : ¬ (122 = 76 + 2 * q.toNatClampNeg + 1))]
    by_cases y : t = q.toNatClampNeg
    · rw [if_pos (show 77 + 2 * t = 76 + 2 * q.toNatClampNeg + 1 by omega), if_neg (fun x => z ⟨y, x⟩), ← e, show 77 + 2 * t = 76 + 2 * q.toNatClampNeg + 1 by omega]
    · rw [if_neg (by omega)]; exact e

theorem eq_copy (p q i j n : Int32) : eqc 62 135 [.int p, .int q, .int i, .int j, .int n] := by
  refine eqc_u fun I L hR => ?_
  have hR0 := hR
  obtain ⟨N, S, hb, hS, hL, hK, hT, hW, hE⟩ := hR
  refine ⟨_, w_cp I p q i j n, I, I, f_cp p q i j n, g_cp p q i j n, w_cp_w I p q i j n, fun hw => ?_, cl_copy 36 hb hS, fun C J K hs => ml_copy 38 hb.1 hs hS, fun hw => ?_⟩
  · exact fun _ _ => rfl
  · obtain ⟨z1, z2, z3, z4, z5, z6, z7, z8, z9⟩ := w_cp_0 hS hw
    have s1 := (sh_s z1).2.2.2.2
    have s2 := (sh_s z2).2.2.2.2
    rw [mg_I]
    exact hR0.lc (rL_cp hL s1 s2 (cp_in (sh_1z (hS _ s1) z3).2 z5 z6 z8).1 (cp_in (sh_1z (hS _ s2) z4).2 z5 z7 z9).1)
end P81
